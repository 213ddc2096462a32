/-! what a month leaves as it is -/
def Kp (P : Nat → Nat → Prop) (S T : St) : Prop := ∀ c i, P c i → T c i = S c i
section KP
variable {P : Nat → Nat → Prop} {S T : St}
theorem Kp.rf : Kp P S S := fun _ _ _ => rfl
theorem Kp.tr {U : St} (h : Kp P S T) (h2 : Kp P T U) : Kp P S U := fun c i hp => (h2 c i hp).trans (h c i hp)
theorem Kp.up (h : Kp P S T) {c i : Nat} {v : Int64} (hn : ¬ P c i) : Kp P S (u2 T c i v) := fun c' j hp => by
  rw [u2_ap, if_neg (c := c' = c ∧ j = i) (fun z => hn (by rw [← z.1, ← z.2]; exact hp))]
  exact h c' j hp
theorem Kp.it {f : Nat → St → St} {n : Nat} (h : Kp P S T) (hs : ∀ i, i < n → ∀ U, Kp P S U → Kp P S (f i U)) : Kp P S (itr f T n) := by
  induction n with
  | zero => exact h
  | succ n ih => exact hs n (Nat.lt_succ_self n) _ (ih (fun i hi => hs i (Nat.lt_succ_of_lt hi)))
theorem Kp.give (h : Kp P S T) {b : Nat} {x : Int64} (h0 : ¬ P 0 b) (h1 : ¬ P 1 b) (h2 : ¬ P 2 b) : Kp P S (giveS T b x) := ((h.up h1).up h2).up h0
theorem Kp.take (h : Kp P S T) {b : Nat} {x d : Int64} (h0 : ¬ P 0 b) (h1 : ¬ P 1 b) : Kp P S (takeS T b x d) := (h.up h0).up h1
theorem Kp.warm (h : Kp P S T) {b : Nat} (h1 : ¬ P 1 b) : Kp P S (warmS T b) := by
  unfold warmS
  split
  · exact h
  · exact h.up h1
theorem Kp.shw {C : Cf} {N : Nat → Nat} {w : Nat} (h : Kp P S T) (h5 : ¬ P 5 w) (h6 : ¬ P 6 w) : Kp P S (shW C N w T) := (h.up h5).up h6
theorem Kp.find (h : Kp P S T) {w : Nat} {x : Int64} (h7 : ¬ P 7 w) (h8 : ¬ P 8 w) : Kp P S (findS T w x) := by
  unfold findS
  (repeat' split)
  · exact h.up h7
  · exact h.up h7
  · exact (h.up h7).up h8
theorem Kp.draw {C : Cf} {N : Nat → Nat} {w : Nat} (h : Kp P S T) (h0 : ∀ i, ¬ P 0 i) (h1 : ∀ i, ¬ P 1 i) (h2 : ∀ i, ¬ P 2 i) (h4 : ¬ P 4 w) (h5 : ¬ P 5 w) (h7 : ¬ P 7 w) (h8 : ¬ P 8 w) (h11 : ∀ k, k < N 2 → ¬ P 11 (10 * k + w)) (h12 : ∀ i, ¬ P 12 i) : Kp P S (dwS C N w T) := by
  have a1 : Kp P S (dr1 C T w) := ((h.up h5).give (h0 _) (h1 _) (h2 _)).find h7 h8
  have a2 : ∀ x y, Kp P S (dr2 C T w x y) := fun x y => ((a1.up (h12 _)).up (h12 _)).up (h12 _)
  have a3 : ∀ x y, Kp P S (dr3 C T w x y) := fun x y => by
    unfold dr3 growS
    (repeat' split) <;> first | exact a2 x y | exact (a2 x y).up h4
  unfold dwS
  split
  · exact h
  · unfold drawS
    refine Kp.it (a3 _ _) (fun k hk U hU => ?_)
    unfold chgS
    split
    · exact hU
    · exact hU.up (h11 k hk)
theorem Kp.gb {C : Cf} {N : Nat → Nat} {br hot : Int64} (h : Kp P S T) (h0 : ∀ i, ¬ P 0 i) (h1 : ∀ i, ¬ P 1 i) (h3 : ∀ i, ¬ P 3 i) (h5 : ∀ w, w < N 0 → ¬ P 5 w) (h12 : ∀ i, ¬ P 12 i) : Kp P S (gbS C N T br hot) := by
  unfold gbS
  refine Kp.it (Kp.up (Kp.it h (fun w hw U hU => ?_)) (h12 _)) (fun w hw U hU => ?_)
  · unfold gb1
    split
    · exact hU
    · exact hU.up (h5 w hw)
  · unfold gb2
    split
    · exact hU
    · exact (hU.take (h0 _) (h1 _)).up (h3 _)
theorem Kp.shs {b : Nat} (h : Kp P S T) (h3 : ¬ P 3 b) (h14 : ¬ P 14 0) : Kp P S (shS b T) := by
  unfold shS
  refine Kp.up ?_ h3
  split
  · exact h
  · exact h.up h14
theorem Kp.crk {C : Cf} (h : Kp P S T) (h0 : ∀ c i, c ≤ 3 → ¬ P c i) : Kp P S (crk C T) := fun c i hp => by
  rw [crk_oth C T (fun z => h0 c i z hp)]
  exact h c i hp
theorem Kp.ra {C : Cf} {b : Nat} (h : Kp P S T) (h0 : ∀ i, ¬ P 0 i) (h1 : ∀ i, ¬ P 1 i) (h12 : ∀ i, ¬ P 12 i) : Kp P S (raS C b T) := by
  unfold raS rnS
  split
  · exact h.warm (h1 _)
  · exact ((h.take (h0 _) (h1 _)).up (h12 _)).warm (h1 _)
theorem Kp.note {k : Nat} {x : Int64} (h : Kp P S T) (h9 : ¬ P 9 k) (h10 : ¬ P 10 k) (h11 : ∀ w, w < 10 → ¬ P 11 (10 * k + w)) : Kp P S (noteS T k x) := by
  unfold noteS clrS
  split
  · exact (h.up h9).up h10
  · exact Kp.it ((h.up h9).up h10) (fun w hw U hU => hU.up (h11 w hw))
theorem Kp.fe {C : Cf} {k : Nat} (h : Kp P S T) (h0 : ∀ i, ¬ P 0 i) (h1 : ∀ i, ¬ P 1 i) (h2 : ∀ i, ¬ P 2 i) (h9 : ¬ P 9 k) (h10 : ¬ P 10 k) (h11 : ∀ w, w < 10 → ¬ P 11 (10 * k + w)) (h12 : ∀ i, ¬ P 12 i) : Kp P S (feS C k T) :=
  ((h.give (h0 _) (h1 _) (h2 _)).note h9 h10 h11).up (h12 _)
/-- from the wells' draws to the month's end -/
theorem Kp.rest {C : Cf} {N : Nat → Nat} (h0 : ∀ c i, c ≤ 3 → ¬ P c i) (h5 : ∀ w, w < N 0 → ¬ P 5 w) (h9 : ∀ k, k < N 2 → ¬ P 9 k) (h10 : ∀ k, k < N 2 → ¬ P 10 k) (h11 : ∀ k w, k < N 2 → w < 10 → ¬ P 11 (10 * k + w)) (h12 : ∀ i, ¬ P 12 i) (h14 : ¬ P 14 0) : Kp P (m2S C N S) (monS C N S) := by
  unfold monS m7S m6S m5S m4S m3S
  refine Kp.it (Kp.it (Kp.crk (Kp.it (Kp.gb (Kp.up Kp.rf (h12 _)) (fun i => h0 0 i (by decide)) (fun i => h0 1 i (by decide)) (fun i => h0 3 i (by decide)) h5 h12) (fun b hb U hU => hU.shs (h0 3 b (by decide)) h14)) h0) (fun b hb U hU => hU.ra (fun i => h0 0 i (by decide)) (fun i => h0 1 i (by decide)) h12)) (fun k hk U hU => hU.fe (fun i => h0 0 i (by decide)) (fun i => h0 1 i (by decide)) (fun i => h0 2 i (by decide)) (h9 k hk) (h10 k hk) (fun w hw => h11 k w hk hw) h12)
theorem Kp.first {C : Cf} {N : Nat → Nat} (h0 : ∀ c i, c ≤ 3 → ¬ P c i) (h4 : ∀ w, w < N 0 → ¬ P 4 w) (h5 : ∀ w, w < N 0 → ¬ P 5 w) (h6 : ∀ w, w < N 0 → ¬ P 6 w) (h7 : ∀ w, w < N 0 → ¬ P 7 w) (h8 : ∀ w, w < N 0 → ¬ P 8 w) (h11 : ∀ k w, k < N 2 → w < N 0 → ¬ P 11 (10 * k + w)) (h12 : ∀ i, ¬ P 12 i) (h13 : ¬ P 13 0) : Kp P S (m2S C N S) := by
  unfold m2S m1S
  exact Kp.it (Kp.it (Kp.rf.up h13) (fun w hw U hU => hU.shw (h5 w hw) (h6 w hw))) (fun w hw U hU => hU.draw (fun i => h0 0 i (by decide)) (fun i => h0 1 i (by decide)) (fun i => h0 2 i (by decide)) (h4 w hw) (h5 w hw) (h7 w hw) (h8 w hw) (fun k hk => h11 k w hk hw) h12)
theorem Kp.draws {C : Cf} {N : Nat → Nat} (h0 : ∀ c i, c ≤ 3 → ¬ P c i) (h4 : ∀ w, w < N 0 → ¬ P 4 w) (h5 : ∀ w, w < N 0 → ¬ P 5 w) (h7 : ∀ w, w < N 0 → ¬ P 7 w) (h8 : ∀ w, w < N 0 → ¬ P 8 w) (h11 : ∀ k w, k < N 2 → w < N 0 → ¬ P 11 (10 * k + w)) (h12 : ∀ i, ¬ P 12 i) : Kp P (m1S C N S) (m2S C N S) := by
  unfold m2S
  exact Kp.it Kp.rf (fun w hw U hU => hU.draw (fun i => h0 0 i (by decide)) (fun i => h0 1 i (by decide)) (fun i => h0 2 i (by decide)) (h4 w hw) (h5 w hw) (h7 w hw) (h8 w hw) (fun k hk => h11 k w hk hw) h12)
end KP
/-- beyond the counts -/
def bey (N : Nat → Nat) (c i : Nat) : Prop := (4 ≤ c ∧ c ≤ 8 ∧ N 0 ≤ i) ∨ (9 ≤ c ∧ c ≤ 10 ∧ N 2 ≤ i) ∨ (c = 11 ∧ (N 2 ≤ i / 10 ∨ N 0 ≤ i % 10))
theorem Kp.rest7 {P : Nat → Nat → Prop} {S : St} {C : Cf} {N : Nat → Nat} (h0 : ∀ c i, c ≤ 3 → ¬ P c i) (h5 : ∀ w, w < N 0 → ¬ P 5 w) (h12 : ∀ i, ¬ P 12 i) (h14 : ¬ P 14 0) : Kp P (m2S C N S) (m7S C N S) := by
  unfold m7S m6S m5S m4S m3S
  exact Kp.it (Kp.crk (Kp.it (Kp.gb (Kp.up Kp.rf (h12 _)) (fun i => h0 0 i (by decide)) (fun i => h0 1 i (by decide)) (fun i => h0 3 i (by decide)) h5 h12) (fun b hb U hU => hU.shs (h0 3 b (by decide)) h14)) h0) (fun b hb U hU => hU.ra (fun i => h0 0 i (by decide)) (fun i => h0 1 i (by decide)) h12)
theorem m7_bey (C : Cf) (N : Nat → Nat) (hN : N 0 ≤ 10) (S : St) : Kp (bey N) S (m7S C N S) := by
  have b0 : ∀ c i, c ≤ 3 → ¬ bey N c i := fun c i h z => by unfold bey at z; omega
  have b12 : ∀ i, ¬ bey N 12 i := fun i z => by unfold bey at z; omega
  exact Kp.tr (Kp.first b0 (fun w h z => by unfold bey at z; omega) (fun w h z => by unfold bey at z; omega) (fun w h z => by unfold bey at z; omega) (fun w h z => by unfold bey at z; omega) (fun w h z => by unfold bey at z; omega) (fun k w hk h z => by unfold bey at z; omega) b12 (fun z => by unfold bey at z; omega))
    (Kp.rest7 b0 (fun w h z => by unfold bey at z; omega) b12 (fun z => by unfold bey at z; omega))
theorem clr_11 (k : Nat) (V : St) (i : Nat) : ∀ n, clrS k V n 11 i = V 11 i ∨ clrS k V n 11 i = 0
  | 0 => Or.inl rfl
  | n + 1 => by
    show u2 (clrS k V n) 11 (10 * k + n) 0 11 i = V 11 i ∨ u2 (clrS k V n) 11 (10 * k + n) 0 11 i = 0
    rw [u2_ap]
    split
    · exact Or.inr rfl
    · exact clr_11 k V i n
theorem fe_11 (C : Cf) (k : Nat) (V : St) (i : Nat) : feS C k V 11 i = V 11 i ∨ feS C k V 11 i = 0 := by
  have e : feS C k V 11 i = noteS (giveS V (spN C k) (feG C V k)) k (feG C V k) 11 i := by
    unfold feS
    rw [u2_c _ _ _ (by decide)]
  have g : giveS V (spN C k) (feG C V k) 11 i = V 11 i := by
    unfold giveS
    rw [u2_c _ _ _ (by decide), u2_c _ _ _ (by decide), u2_c _ _ _ (by decide)]
  rw [e]
  generalize feG C V k = x at g ⊢
  generalize giveS V (spN C k) x = T at g ⊢
  unfold noteS
  by_cases h : x ≤ 0
  · rw [if_pos h, u2_c _ _ _ (by decide), u2_c _ _ _ (by decide)]
    exact Or.inl g
  · rw [if_neg h]
    rcases clr_11 k (u2 (u2 T 9 k x) 10 k 0) i 10 with z | z
    · rw [u2_c _ _ _ (by decide), u2_c _ _ _ (by decide), g] at z
      exact Or.inl z
    · exact Or.inr z
theorem fes_11 (C : Cf) (V : St) (i : Nat) (hz : V 11 i = 0) : ∀ n, itr (feS C) V n 11 i = 0
  | 0 => hz
  | n + 1 => by
    show feS C n (itr (feS C) V n) 11 i = 0
    rcases fe_11 C n (itr (feS C) V n) i with e | e
    · rw [e]
      exact fes_11 C V i hz n
    · exact e
theorem mon_ZB {C : Cf} {N : Nat → Nat} {S : St} (hN : N 0 ≤ 10) (h : ZB C N S) : ZB C N (monS C N S) := by
  have K := m7_bey C N hN S
  have K8 : Kp (fun c i => (4 ≤ c ∧ c ≤ 8) ∨ (9 ≤ c ∧ c ≤ 10 ∧ N 2 ≤ i)) (m7S C N S) (monS C N S) := by
    unfold monS
    exact Kp.it Kp.rf (fun k hk U hU => hU.fe (fun i z => by omega) (fun i z => by omega) (fun i z => by omega) (fun z => by omega) (fun z => by omega) (fun w hw z => by omega) (fun i z => by omega))
  obtain ⟨h1, h2, h3, h4, h5, h6⟩ := h
  refine ⟨fun c w a b d e => ((K8 c w (Or.inl ⟨a, b⟩)).trans (K c w (Or.inl ⟨a, b, d⟩))).trans (h1 c w a b d e), h2, h3, h4, fun c k a b d e => ((K8 c k (Or.inr ⟨a, b, d⟩)).trans (K c k (Or.inr (Or.inl ⟨a, b, d⟩)))).trans (h5 c k a b d e), fun k w hw hk hz => ?_⟩
  exact fes_11 C (m7S C N S) (10 * k + w) ((K 11 (10 * k + w) (Or.inr (Or.inr ⟨rfl, by rcases hz with hz | hz <;> omega⟩))).trans (h6 k w hw hk hz)) (N 2)
/-- rows that only the month's first half changes -/
theorem mon_hi (C : Cf) (N : Nat → Nat) (S : St) {c : Nat} (hc : c = 4 ∨ c = 6 ∨ c = 7 ∨ c = 8 ∨ c = 13) (i : Nat) : monS C N S c i = m2S C N S c i := by
  refine Kp.rest (P := fun c' _ => c' = c) ?_ ?_ ?_ ?_ ?_ ?_ ?_ c i rfl <;> intros <;> omega
theorem m2_hi (C : Cf) (N : Nat → Nat) (S : St) {c : Nat} (hc : c = 6 ∨ c = 13) (i : Nat) : m2S C N S c i = m1S C N S c i := by
  refine Kp.draws (P := fun c' _ => c' = c) ?_ ?_ ?_ ?_ ?_ ?_ ?_ c i rfl <;> intros <;> omega
theorem m1_13 (C : Cf) (N : Nat → Nat) (S : St) : m1S C N S 13 0 = S 13 0 + 1 := by
  have : Kp (fun c' _ => c' = 13) (u2 S 13 0 (S 13 0 + 1)) (m1S C N S) := by
    unfold m1S
    exact Kp.it Kp.rf (fun w hw U hU => hU.shw (by omega) (by omega))
  exact (this 13 0 rfl).trans (u2_same _ _ _ _)
theorem mon_13 (C : Cf) (N : Nat → Nat) (S : St) : monS C N S 13 0 = S 13 0 + 1 := (mon_hi C N S (Or.inr (Or.inr (Or.inr (Or.inr rfl)))) 0).trans ((m2_hi C N S (Or.inr rfl) 0).trans (m1_13 C N S))
theorem m1_6 (C : Cf) (N : Nat → Nat) (S : St) : Bok N (m1S C N S) := by
  have key : ∀ n T, ∀ w, w < n → itr (shW C N) T n 6 w = 0 ∨ itr (shW C N) T n 6 w = 1 := by
    intro n T
    induction n with
    | zero => intro w h; omega
    | succ n ih =>
      intro w hw
      show shW C N n (itr (shW C N) T n) 6 w = 0 ∨ shW C N n (itr (shW C N) T n) 6 w = 1
      unfold shW
      rw [u2_ap]
      by_cases h : w = n
      · rw [if_pos ⟨rfl, h⟩]
        unfold bL
        split
        · exact Or.inr rfl
        · exact Or.inl rfl
      · rw [if_neg (fun z => h z.2), u2_c _ _ _ (by decide)]
        exact ih w (by omega)
  exact fun w hw => key (N 0) _ w hw
theorem mon_Bok (C : Cf) (N : Nat → Nat) (S : St) : Bok N (monS C N S) := fun w hw => by
  rw [mon_hi C N S (Or.inr (Or.inl rfl)) w, m2_hi C N S (Or.inl rfl) w]
  exact m1_6 C N S w hw
/-- the invariant of a state in which m months have passed -/
def Iv (C : Cf) (N : Nat → Nat) (S : St) (m : Nat) : Prop :=
  Cok C N ∧ Rok C ∧ Xok C ∧ (∀ w, w < N 0 → C 3 w = 0 ∨ C 3 w = 1) ∧ ZB C N S ∧ Wk (50000 + 100000500 * (m : Int)) S ∧ Wel N S ∧ S 13 0 = lN m ∧ (S 14 0 = lN (qN S) ∧ qN S ≤ 12 * m) ∧ Bok N S ∧ (∀ k, k < N 2 → 0 ≤ (S 10 k).toInt ∧ (S 10 k).toInt ≤ (m : Int))
theorem Iv.mok {C : Cf} {N : Nat → Nat} {S : St} {m : Nat} (h : Iv C N S m) (hm : m ≤ 700) : MonOk C N S := by
  obtain ⟨h1, h2, h3, h4, h5, h6, h7, h8, h9, h10, h11⟩ := h
  exact ⟨50000 + 100000500 * (m : Int), h6, by omega, by omega, h7, by rw [h8, lN_toInt (by omega)]; omega, ⟨h9.1, by omega⟩, h10⟩
theorem Wel.rows {N : Nat → Nat} {S T : St} (h : Wel N S) (h4 : ∀ w, w < N 0 → T 4 w = S 4 w) (h8 : ∀ w, w < N 0 → T 8 w = S 8 w) (h13 : 0 ≤ (T 13 0).toInt ∧ (T 13 0).toInt ≤ 1000) : Wel N T := by
  refine ⟨fun w hw => ?_, fun w hw => ?_, h13⟩
  · have e : scN T w = scN S w := by unfold scN; rw [h4 w hw]
    rw [h4 w hw, e]
    exact h.1 w hw
  · rw [h8 w hw]
    exact h.2.1 w hw
theorem m5_mon {P : Nat → Nat → Prop} {C : Cf} {N : Nat → Nat} {S : St} (h0 : ∀ c i, c ≤ 3 → ¬ P c i) (h9 : ∀ k, k < N 2 → ¬ P 9 k) (h10 : ∀ k, k < N 2 → ¬ P 10 k) (h11 : ∀ k w, k < N 2 → w < 10 → ¬ P 11 (10 * k + w)) (h12 : ∀ i, ¬ P 12 i) : Kp P (m5S C N S) (monS C N S) := by
  unfold monS m7S m6S
  exact Kp.it (Kp.it (Kp.crk Kp.rf h0) (fun b hb U hU => hU.ra (fun i => h0 0 i (by decide)) (fun i => h0 1 i (by decide)) h12)) (fun k hk U hU => hU.fe (fun i => h0 0 i (by decide)) (fun i => h0 1 i (by decide)) (fun i => h0 2 i (by decide)) (h9 k hk) (h10 k hk) (fun w hw => h11 k w hk hw) h12)
theorem m7_10 (C : Cf) (N : Nat → Nat) (S : St) (k : Nat) : m7S C N S 10 k = S 10 k := by
  have K1 : Kp (fun c _ => c = 10) S (m2S C N S) := by
    refine Kp.first ?_ ?_ ?_ ?_ ?_ ?_ ?_ ?_ ?_ <;> intros <;> omega
  have K2 : Kp (fun c _ => c = 10) (m2S C N S) (m7S C N S) := by
    unfold m7S m6S m5S m4S m3S
    refine Kp.it (Kp.crk (Kp.it (Kp.gb (Kp.up Kp.rf ?_) ?_ ?_ ?_ ?_ ?_) (fun b hb U hU => hU.shs ?_ ?_)) ?_) (fun b hb U hU => hU.ra ?_ ?_ ?_) <;> intros <;> omega
  exact (K2 10 k rfl).trans (K1 10 k rfl)
theorem fe_10 (C : Cf) (k : Nat) (V : St) (j : Nat) : (j = k → feS C k V 10 j = V 10 j + 1 ∨ feS C k V 10 j = 0) ∧ (¬ j = k → feS C k V 10 j = V 10 j) := by
  have e : feS C k V 10 j = noteS (giveS V (spN C k) (feG C V k)) k (feG C V k) 10 j := by
    unfold feS
    rw [u2_c _ _ _ (by decide)]
  have g : ∀ i, giveS V (spN C k) (feG C V k) 10 i = V 10 i := fun i => by
    unfold giveS
    rw [u2_c _ _ _ (by decide), u2_c _ _ _ (by decide), u2_c _ _ _ (by decide)]
  rw [e]
  generalize feG C V k = x at g ⊢
  generalize giveS V (spN C k) x = T at g ⊢
  unfold noteS
  by_cases h : x ≤ 0
  · rw [if_pos h]
    refine ⟨fun hj => Or.inl ?_, fun hj => ?_⟩
    · rw [hj, u2_same, g]
    · rw [u2_ne _ _ _ hj, u2_c _ _ _ (by decide), g]
  · rw [if_neg h, clr_oth _ _ (by decide)]
    refine ⟨fun hj => Or.inr ?_, fun hj => ?_⟩
    · rw [hj, u2_same]
    · rw [u2_ne _ _ _ hj, u2_c _ _ _ (by decide), g]
theorem fes_10 (C : Cf) (V : St) (j : Nat) : ∀ n, (j < n → itr (feS C) V n 10 j = V 10 j + 1 ∨ itr (feS C) V n 10 j = 0) ∧ (¬ j < n → itr (feS C) V n 10 j = V 10 j)
  | 0 => ⟨fun h => absurd h (by omega), fun _ => rfl⟩
  | n + 1 => by
    have ih := fes_10 C V j n
    have h := fe_10 C n (itr (feS C) V n) j
    show (_ → feS C n (itr (feS C) V n) 10 j = _ ∨ feS C n (itr (feS C) V n) 10 j = _) ∧ (_ → feS C n (itr (feS C) V n) 10 j = _)
    refine ⟨fun hj => ?_, fun hj => ?_⟩
    · by_cases e : j = n
      · have h2 := ih.2 (by omega)
        rw [h2] at h
        exact h.1 e
      · rw [h.2 e]
        exact ih.1 (by omega)
    · rw [h.2 (by omega)]
      exact ih.2 (by omega)
theorem mon_10 (C : Cf) (N : Nat → Nat) (S : St) (k : Nat) (hk : k < N 2) : monS C N S 10 k = S 10 k + 1 ∨ monS C N S 10 k = 0 := by
  have h := (fes_10 C (m7S C N S) k (N 2)).1 hk
  rw [m7_10] at h
  exact h
theorem l_inc {x : Int64} {m : Nat} (h : 0 ≤ x.toInt ∧ x.toInt ≤ (m : Int)) (hm : m ≤ 1000) : 0 ≤ (x + 1).toInt ∧ (x + 1).toInt ≤ ((m + 1 : Nat) : Int) := by
  have e1 : (1 : Int64).toInt = 1 := by decide
  rw [Int64.toInt_add, e1, Int.bmod_eq_of_le (by omega) (by omega)]
  omega
/-- a month keeps it -/
theorem mon_Iv {C : Cf} {N : Nat → Nat} {S : St} {m : Nat} (hm : m ≤ 700) (h : Iv C N S m) : Iv C N (monS C N S) (m + 1) := by
  obtain ⟨hC, hR, hX, h3, hZ, hW, hE, h13, hq, hB, h10⟩ := h
  have hmo : (S 13 0).toInt ≤ 900 := by rw [h13, lN_toInt (by omega)]; omega
  have hk0 : (0 : Int) ≤ 50000 + 100000500 * (m : Int) := by omega
  have hk1 : 50000 + 100000500 * (m : Int) + 200000000 ≤ 1099511627776 := by omega
  have h1 := m1_ok C N S _ hW hE hmo
  have h2 := dw_ok C N (m1S C N S) _ hC h1.1 (by omega) h1.2 (N 0) (Nat.le_refl _)
  have h4 := m4_ok C N S _ hC hW hk0 hk1 hE hmo
  have h5 : Wk (50000 + 100000500 * (m : Int) + 100000000) (m5S C N S) := h4.row (m5_0 _ 12)
  have h6 := crk_ok C _ _ hX (by omega) h5
  have h7 := (ra_ok C (m6S C N S) _ hR h6 (by omega) (by omega) 12 (by omega)).1
  have h8 := fe_ok C N (m7S C N S) _ hC h7 (by omega) (N 2) (Nat.le_refl _)
  have hq4 : m4S C N S 14 0 = lN (qN (m4S C N S)) ∧ qN (m4S C N S) ≤ 900000 := by
    unfold qN
    rw [m4_q]
    exact ⟨hq.1, Nat.le_trans hq.2 (by omega)⟩
  have hqs := shk_q (m4S C N S) hq4 12 (Nat.le_refl _)
  have e14 : monS C N S 14 0 = m5S C N S 14 0 := by
    refine (m5_mon (P := fun c _ => c = 14) ?_ ?_ ?_ ?_ ?_) 14 0 rfl <;> intros <;> omega
  have eq4 : qN (m4S C N S) = qN S := by unfold qN; rw [m4_q]
  have e13 : monS C N S 13 0 = lN (m + 1) := by rw [mon_13, h13, lN_1]
  refine ⟨hC, hR, hX, h3, mon_ZB hC.n0 hZ, Wk.mono h8 (by omega), h2.2.rows (fun w _ => mon_hi C N S (Or.inl rfl) w) (fun w _ => mon_hi C N S (Or.inr (Or.inr (Or.inr (Or.inl rfl)))) w) (by rw [e13, lN_toInt (by omega)]; omega), e13, ?_, mon_Bok C N S, fun k hk => ?_⟩
  · have e : qN (monS C N S) = qN (m5S C N S) := by unfold qN; rw [e14]
    rw [e, e14]
    refine ⟨hqs.1, ?_⟩
    have := hqs.2
    rw [eq4] at this
    have h9 : qN (m5S C N S) ≤ qN S + 12 := this
    omega
  · rcases mon_10 C N S k hk with e | e <;> rw [e]
    · exact l_inc (h10 k hk) (by omega)
    · exact ⟨by decide, by have : (0 : Int64).toInt = 0 := rfl; omega⟩
theorem mns_Iv {C : Cf} {N : Nat → Nat} {S : St} {m : Nat} (h : Iv C N S m) : ∀ n, m + n ≤ 700 → Iv C N (mnS C N S n) (m + n)
  | 0, _ => h
  | n + 1, hn => by
    rw [mnS_s]
    exact mon_Iv (m := m + n) (by omega) (mns_Iv h n (by omega))
theorem Iv.mons {C : Cf} {N : Nat → Nat} {S : St} {m : Nat} (h : Iv C N S m) (hm : m ≤ 624) : ∀ i, i ≤ 24 → MonOk C N (mnS C N S i) := fun i hi => (mns_Iv h i (by omega)).mok (by omega)
