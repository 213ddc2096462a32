/-! the law's wells -/
/-- shut, as the law has it -/
def shB (C : Cf) (S : St) (w : Nat) : Bool := if ¬ C 3 w = nI 1 then false else if S 3 (plN C w) ≤ 1999 then false else true
def shI (C : Cf) (S : St) (w n : Nat) : Bool := itr (fun i r => if r = true then true else if ¬ C 3 w = 0 then false else if nrB (plN C w) (spN C i) = false then false else if (C 9 i).toInt64 ≤ S 0 (spN C i) then false else true) (shB C S w) n
theorem shI_s (C : Cf) (S : St) (w n : Nat) : shI C S w (n + 1) = if shI C S w n = true then true else if ¬ C 3 w = 0 then false else if nrB (plN C w) (spN C n) = false then false else if (C 9 n).toInt64 ≤ S 0 (spN C n) then false else true := rfl
theorem shI_0 {C : Cf} {N : Nat → Nat} {S : St} {w : Nat} (hC : Cok C N) (h : C 3 w = 0) (hb : plN C w < 12) : ∀ n, n ≤ N 2 → shI C S w n = anyB n (dryB C S (plN C w))
  | 0, _ => by
    show shB C S w = false
    unfold shB
    rw [if_pos (by rw [h]; decide)]
  | n + 1, hn => by
    rw [shI_s, shI_0 hC h hb n (by omega), if_neg (c := ¬ C 3 w = 0) (fun z => z h)]
    exact any_m C S hb (hC.sp (by omega)).2
theorem shI_1 {C : Cf} {S : St} {w : Nat} (h : ¬ C 3 w = 0) : ∀ n, shI C S w n = shB C S w
  | 0 => rfl
  | n + 1 => by
    rw [shI_s, shI_1 h n, if_pos (c := ¬ C 3 w = 0) h]
    cases shB C S w <;> rfl
theorem lg_19 (x : Int64) : (x ≤ 1999) ↔ ¬ (2000 ≤ x) := by
  rw [z_le, z_le]
  have h1 : (1999 : Int64).toInt = 1999 := rfl
  have h2 : (2000 : Int64).toInt = 2000 := rfl
  omega
theorem lg_9 (x : Int64) : (x ≤ 999) ↔ ¬ (1000 ≤ x) := by
  rw [z_le, z_le]
  have h1 : (999 : Int64).toInt = 999 := rfl
  have h2 : (1000 : Int64).toInt = 1000 := rfl
  omega
theorem lig_2 (S : St) (b : Nat) : lig S b = 2 ↔ 2000 ≤ S 3 b := by
  unfold lig
  by_cases h : 1000 ≤ S 3 b
  · rw [if_pos h]
    by_cases h2 : 2000 ≤ S 3 b
    · rw [if_pos h2]; exact ⟨fun _ => h2, fun _ => rfl⟩
    · rw [if_neg h2]; exact ⟨fun z => absurd z (by decide), fun z => absurd z h2⟩
  · rw [if_neg h]
    refine ⟨fun z => absurd z (by decide), fun z => absurd ?_ h⟩
    rw [z_le] at z ⊢
    have h1 : (1000 : Int64).toInt = 1000 := rfl
    have h2 : (2000 : Int64).toInt = 2000 := rfl
    omega
theorem lig_1 (S : St) (b : Nat) : lig S b = 1 ↔ 1000 ≤ S 3 b ∧ ¬ 2000 ≤ S 3 b := by
  unfold lig
  by_cases h : 1000 ≤ S 3 b
  · rw [if_pos h]
    by_cases h2 : 2000 ≤ S 3 b
    · rw [if_pos h2]; exact ⟨fun z => absurd z (by decide), fun z => absurd h2 z.2⟩
    · rw [if_neg h2]; exact ⟨fun _ => ⟨h, h2⟩, fun _ => rfl⟩
  · rw [if_neg h]
    exact ⟨fun z => absurd z (by decide), fun z => absurd z.1 h⟩
def R01 (C : Cf) (N : Nat → Nat) : Prop := ∀ w, w < N 0 → C 3 w = 0 ∨ C 3 w = nI 1
theorem shI_m {C : Cf} {N : Nat → Nat} {S : St} {w : Nat} (hC : Cok C N) (h3 : R01 C N) (hw : w < N 0) : shI C S w (N 2) = mst C N S w := by
  unfold mst
  have hb := (hC.pl hw).2
  rcases h3 w hw with h | h
  · rw [if_pos h, shI_0 hC h hb _ (Nat.le_refl _)]
  · have h0 : ¬ C 3 w = 0 := by rw [h]; decide
    rw [if_neg h0, shI_1 h0]
    unfold shB
    rw [if_neg (fun z => z h)]
    by_cases h2 : S 3 (plN C w) ≤ 1999
    · rw [if_pos h2, decide_eq_false (fun z => (lg_19 _).mp h2 ((lig_2 S _).mp z))]
    · rw [if_neg h2, decide_eq_true ((lig_2 S _).mpr (Decidable.not_not.mp (fun z => h2 ((lg_19 _).mpr z))))]
theorem shL_m {C : Cf} {N : Nat → Nat} {S : St} {w : Nat} (hC : Cok C N) (h3 : R01 C N) (hw : w < N 0) : u2 (u2 S 6 w (bL (if shI C S w (N 2) = false then false else true))) 5 w 0 = shW C N w S := by
  have e : (if shI C S w (N 2) = false then false else true) = mst C N (u2 S 5 w 0) w := by
    rw [shI_m hC h3 hw]
    show _ = mst C N S w
    cases mst C N S w <;> rfl
  rw [e, u2_sort _ _ _ _ _ (show 5 < 6 by decide)]
  rfl
/-- what the law's row holds of the first month of tracer -/
theorem e8_m {T : St} {w : Nat} {G : Int64} (h : -1 ≤ (T 8 w).toInt ∧ (T 8 w).toInt ≤ 1000) : (if G ≤ 0 then T 8 w else if ¬ T 8 w = -1 then T 8 w else T 13 0).toInt32 + 1 = if G ≤ 0 then (T 8 w).toInt32 + 1 else if ¬ (T 8 w).toInt32 + 1 = 0 then (T 8 w).toInt32 + 1 else (T 13 0).toInt32 + nI 1 := by
  by_cases hg : G ≤ 0
  · rw [if_pos hg, if_pos hg]
  · rw [if_neg hg, if_neg hg]
    have hq : (T 8 w).toInt32 + 1 = 0 ↔ T 8 w = -1 := by
      have e1 : (T 8 w).toInt32.toInt = (T 8 w).toInt := by
        rw [Int64.toInt_toInt32]
        exact Int.bmod_eq_of_le (by omega) (by omega)
      rw [← Int32.toInt_inj, Int32.toInt_add, e1, z_eq]
      have h1 : (1 : Int32).toInt = 1 := rfl
      have h0 : (0 : Int32).toInt = 0 := rfl
      have hm : (-1 : Int64).toInt = -1 := rfl
      rw [h1, h0, hm, Int.bmod_eq_of_le (by omega) (by omega)]
      omega
    by_cases h8 : T 8 w = -1
    · rw [if_neg (fun z => z h8), if_neg (fun z => z (hq.mpr h8))]
      rfl
    · rw [if_pos h8, if_pos (fun z => h8 (hq.mp z))]
theorem stl_m (x hot : Int64) : (if 101 ≤ hot then x * (if hot ≤ 300 then hot - 100 else 200) / 400 else 0) = stm x hot := by
  unfold stm
  have h1 : (101 : Int64).toInt = 101 := rfl
  have h2 : (100 : Int64).toInt = 100 := rfl
  have h3 : (300 : Int64).toInt = 300 := rfl
  have h4 : (200 : Int64).toInt = 200 := rfl
  have hr := Int64.toInt_lt hot
  by_cases h : hot ≤ 100
  · rw [if_pos h, if_neg (fun z => by rw [z_le] at h z; omega)]
  · have hp : 101 ≤ hot := by rw [z_le] at h ⊢; omega
    rw [if_neg h, if_pos hp]
    by_cases h5 : hot ≤ 300
    · rw [if_pos h5, if_neg (fun z => by
        rw [z_le] at h5 h
        rw [z_lt, z_sub (by omega) (by omega)] at z
        omega)]
    · rw [if_neg h5, if_pos (by
        rw [z_le] at h5 h
        rw [z_lt, z_sub (by omega) (by omega)]
        omega)]
theorem hot_m (hot : Int64) : (if hot ≤ 100 then hot else 100) = if 100 < hot then 100 else hot := by
  by_cases h : 100 < hot
  · rw [if_pos h, if_neg (fun z => by rw [z_lt] at h; rw [z_le] at z; omega)]
  · rw [if_neg h, if_pos (by rw [z_lt] at h; rw [z_le]; omega)]
theorem st6_m (x hot : Int64) : stm x hot * (if 60 ≤ hot then hot - 60 else 0) / 10 = if hot ≤ 60 then 0 else stm x hot * (hot - 60) / 10 := by
  have h1 : (60 : Int64).toInt = 60 := rfl
  by_cases h : hot ≤ 60
  · rw [if_pos h]
    have h2 : stm x hot = 0 := by
      unfold stm
      rw [z_le] at h
      exact if_pos (by rw [z_le]; have : (100 : Int64).toInt = 100 := rfl; omega)
    rw [h2, Int64.zero_mul]
    rfl
  · rw [if_neg h, if_pos (by rw [z_le] at h ⊢; omega)]
theorem drx_m {C : Cf} {S : St} {w : Nat} (hm : muN C w ≤ 1000) (h0 : 0 ≤ (S 0 (plN C w)).toInt) : drW C S w = 0 ∨ ¬ S 0 (plN C w) ≤ 0 := by
  have h := drW_ok (C := C) (S := S) (w := w) hm h0
  have hz : (0 : Int64).toInt = 0 := rfl
  by_cases h1 : S 0 (plN C w) ≤ 0
  · rw [z_le] at h1
    refine Or.inl ?_
    rw [z_eq]
    omega
  · exact Or.inr h1
/-- the scale, as the law reckons it -/
theorem sc_l {D : St} {w : Nat} {x hot : Int64} (hs : 0 ≤ (D 4 w).toInt ∧ (D 4 w).toInt ≤ 100) (hx : 0 ≤ x.toInt ∧ x.toInt ≤ 1000) : (if hot ≤ 160 then D 4 w else if x ≤ 0 then D 4 w else (if D 4 w + 1 + x / 500 < 100 then D 4 w + 1 + x / 500 else 100)).toInt32 = if hot < 161 then (D 4 w).toInt32 else if ¬ x = 0 then (if (D 4 w).toInt32 + nI 1 + x.toInt32 / nI 500 ≤ nI 100 then (D 4 w).toInt32 + nI 1 + x.toInt32 / nI 500 else nI 100) else (D 4 w).toInt32 := by
  have h1 : (160 : Int64).toInt = 160 := rfl
  have h2 : (161 : Int64).toInt = 161 := rfl
  have hz : (0 : Int64).toInt = 0 := rfl
  by_cases h : hot ≤ 160
  · rw [if_pos h, if_pos (by rw [z_le] at h; rw [z_lt]; omega)]
  · rw [if_neg h, if_neg (c := hot < 161) (fun z => by rw [z_le] at h; rw [z_lt] at z; omega)]
    by_cases h3 : x ≤ 0
    · rw [if_pos h3, if_neg (fun z => z (by rw [z_le] at h3; rw [z_eq]; omega))]
    · rw [if_neg h3, if_pos (fun z => h3 (by rw [z]; exact Int64.le_refl 0))]
      obtain ⟨a, ha, ea⟩ : ∃ a : Nat, a ≤ 100 ∧ D 4 w = lN a := ⟨(D 4 w).toInt.toNat, by omega, by rw [z_eq, lN_toInt (by omega)]; omega⟩
      obtain ⟨b, hb, eb⟩ : ∃ b : Nat, b ≤ 1000 ∧ x = lN b := ⟨x.toInt.toNat, by omega, by rw [z_eq, lN_toInt (by omega)]; omega⟩
      rw [ea, eb, show (500 : Int64) = lN 500 by decide, pk_lDiv (by omega) (by decide) (by decide), show (1 : Int64) = lN 1 by decide, lN_add, lN_add, lN_i, lN_i, pk_div (by omega) (by decide) (by decide), nI_add, nI_add, show (100 : Int64) = lN 100 by decide]
      have e1 : (lN (a + 1 + b / 500) < lN 100) ↔ a + 1 + b / 500 < 100 := by rw [z_lt, lN_toInt (by omega), lN_toInt (by omega)]; omega
      have e2 : (nI (a + 1 + b / 500) ≤ nI 100) ↔ a + 1 + b / 500 ≤ 100 := by rw [Int32.le_iff_toInt_le, nI_toInt (by omega), nI_toInt (by omega)]; omega
      by_cases h5 : a + 1 + b / 500 < 100
      · rw [if_pos (e1.mpr h5), if_pos (e2.mpr (by omega)), lN_i]
      · rw [if_neg (fun z => h5 (e1.mp z)), lN_i]
        by_cases h6 : a + 1 + b / 500 ≤ 100
        · rw [if_pos (e2.mpr h6)]
          exact congrArg nI (by omega)
        · rw [if_neg (fun z => h6 (e2.mp z))]
theorem dM3_l {D : St} {w : Nat} {p q : Prop} [Decidable p] [Decidable q] {z : Int64} : u2 D 4 w (if p then D 4 w else if q then D 4 w else z) = if p then D else if q then D else u2 D 4 w z := by
  by_cases h : p
  · rw [if_pos h, if_pos h, u2_self]
  · rw [if_neg h, if_neg h]
    by_cases h2 : q
    · rw [if_pos h2, if_pos h2, u2_self]
    · rw [if_neg h2, if_neg h2]
theorem dws_l {α : Type} {C : Cf} {S : St} {w : Nat} {a b : α} : (if ¬ C 3 w = 0 then a else if ¬ (S 6 w).toInt32 = 0 then a else b) = if drw C S w = false then a else b := by
  unfold drw
  by_cases h : ¬ C 3 w = 0
  · rw [if_pos h, if_pos h, if_pos rfl]
  · rw [if_neg h, if_neg h]
    by_cases h2 : ¬ (S 6 w).toInt32 = 0
    · rw [if_pos h2, if_pos h2, if_pos rfl]
    · rw [if_neg h2, if_neg h2, if_neg (by decide)]
theorem dwS_6 (C : Cf) (N : Nat → Nat) (S : St) : ∀ n, itr (dwS C N) S n 6 = S 6 := by
  refine itr_c (fun n T => ?_) S
  unfold dwS
  split
  · rfl
  · exact drawS_13 (by decide) (by decide) (by decide) (by decide) (by decide) (by decide) (by decide) (by decide) (by decide)
theorem wgt_l {C : Cf} {N : Nat → Nat} {S : St} {w : Nat} (h3 : R01 C N) (hw : w < N 0) (a : Int64) : a + (if ¬ C 3 w = nI 1 then 0 else if ¬ (S 6 w).toInt32 = 0 then 0 else (C 4 w).toInt64) = if ret_ C S w = false then a else a + (C 4 w).toInt64 := by
  unfold ret_
  rcases h3 w hw with h | h
  · rw [if_pos h, if_pos rfl, if_pos (by rw [h]; decide), Int64.add_zero]
  · rw [if_neg (c := ¬ C 3 w = nI 1) (fun z => z h), if_neg (c := C 3 w = 0) (by rw [h]; decide)]
    by_cases h2 : ¬ (S 6 w).toInt32 = 0
    · rw [if_pos h2, if_pos h2, if_pos rfl, Int64.add_zero]
    · rw [if_neg h2, if_neg h2, if_neg (by decide)]

theorem sh_ok {C : Cf} {N : Nat → Nat} {S : St} {k : Int} (hW : Wk k S) (hE : Wel N S) (n : Nat) : Wk k (itr (shW C N) S n) ∧ Wel N (itr (shW C N) S n) := by
  have e : ∀ c, ¬ c = 5 → ¬ c = 6 → itr (shW C N) S n c = S c := fun c h5 h6 => itr_c (fun n T => shW_c h5 h6) S n
  refine ⟨fun b hb => by rw [e 0 (by decide) (by decide)]; exact hW b hb, ?_⟩
  unfold Wel scN
  rw [e 4 (by decide) (by decide), e 8 (by decide) (by decide), e 13 (by decide) (by decide)]
  exact hE
theorem sh_6 {C : Cf} {N : Nat → Nat} (S : St) : ∀ n j, j < n → itr (shW C N) S n 6 j = bL (mst C N S j)
  | 0, j, h => absurd h (Nat.not_lt_zero j)
  | n + 1, j, h => by
    show u2 (u2 (itr (shW C N) S n) 5 n 0) 6 n (bL (mst C N (u2 (itr (shW C N) S n) 5 n 0) n)) 6 j = _
    rw [u2_ap]
    by_cases hj : j = n
    · subst hj
      rw [if_pos ⟨rfl, rfl⟩]
      have e : ∀ c, ¬ c = 5 → ¬ c = 6 → itr (shW C N) S j c = S c := fun c h5 h6 => itr_c (fun n T => shW_c h5 h6) S j
      have e0 := e 0 (by decide) (by decide)
      have e3 := e 3 (by decide) (by decide)
      have em : mst C N (u2 (itr (shW C N) S j) 5 j 0) j = mst C N S j := by
        unfold mst dryB lig
        rw [u2_c _ _ _ (show ¬ 0 = 5 by decide), u2_c _ _ _ (show ¬ 3 = 5 by decide), e0, e3]
      rw [em]
    · rw [if_neg (fun z => hj z.2), u2_c _ _ _ (by decide)]
      exact sh_6 S n j (by omega)
theorem sh_5 {C : Cf} {N : Nat → Nat} (S : St) : ∀ n j, j < n → itr (shW C N) S n 5 j = 0
  | 0, j, h => absurd h (Nat.not_lt_zero j)
  | n + 1, j, h => by
    show shW C N n (itr (shW C N) S n) 5 j = _
    unfold shW
    rw [u2_c _ _ _ (by decide), u2_ap]
    by_cases hj : j = n
    · rw [if_pos ⟨rfl, hj⟩]
    · rw [if_neg (fun z => hj z.2)]
      exact sh_5 S n j (by omega)
def wT (C : Cf) (N : Nat → Nat) (S : St) : St := itr (shW C N) S (N 0)
def wD (C : Cf) (N : Nat → Nat) (S : St) : St := itr (dwS C N) (wT C N S) (N 0)
def wSel (C : Cf) (N : Nat → Nat) (S : St) : Int64 × Int64 := selP C (brn C N (wT C N S) (N 0)) (brh C N (wT C N S) (N 0)) (wD C N S 12 5) (N 1)
/-- all that the wells do in a month -/
def wlS (C : Cf) (N : Nat → Nat) (S : St) : St := gbS C N (u2 (wD C N S) 12 5 (wSel C N S).2) (brn C N (wT C N S) (N 0)) (wSel C N S).1
theorem wlS_m (C : Cf) (N : Nat → Nat) (S : St) : wlS C N (u2 S 13 0 (S 13 0 + 1)) = m4S C N S := rfl
theorem dwS_n1 {C : Cf} {N : Nat → Nat} {S : St} {w : Nat} (h : ¬ C 3 w = 0) : drw C S w = false := by
  unfold drw
  rw [if_pos h]
theorem dwS_n2 {C : Cf} {N : Nat → Nat} {S : St} {w : Nat} (h : ¬ (S 6 w).toInt32 = 0) : drw C S w = false := by
  unfold drw
  by_cases h1 : ¬ C 3 w = 0
  · rw [if_pos h1]
  · rw [if_neg h1, if_pos h]
theorem dwS_y {C : Cf} {S : St} {w : Nat} (h1 : C 3 w = 0) (h2 : (S 6 w).toInt32 = 0) : ¬ drw C S w = false := by
  unfold drw
  rw [if_neg (fun z => z h1), if_neg (fun z => z h2)]
  decide
theorem ret_dw (C : Cf) (N : Nat → Nat) (S : St) (n w : Nat) : ret_ C (itr (dwS C N) S n) w = ret_ C S w := by
  unfold ret_
  rw [dwS_6]
theorem brh_s2 (C : Cf) (N : Nat → Nat) (S : St) (n : Nat) : brh C N S (n + 1) = if drw C (itr (dwS C N) S n) n = false then brh C N S n else brh C N S n + bhW C (itr (dwS C N) S n) n := rfl
theorem sel_0 {C : Cf} {br bh s : Int64} (h : 0 ≤ br.toInt) : (if ¬ br = 0 then bh / br else 0) = (selP C br bh s 0).1 := by
  show _ = (if br ≤ 0 then 0 else bh / br)
  have hz : (0 : Int64).toInt = 0 := rfl
  by_cases h0 : br ≤ 0
  · rw [if_pos h0, if_neg (fun z => z (by rw [z_le] at h0; rw [z_eq]; omega))]
  · rw [if_neg h0, if_pos (ne_le0 h0)]
theorem sel_l {C : Cf} {br bh s : Int64} (h : 0 ≤ br.toInt) (u : Nat) : selP C br bh s (u + 1) = ((selP C br bh s u).1 - (if br = 0 then 0 else if (C 5 u).toInt64 ≤ (selP C br bh s u).1 then (if (C 6 u).toInt64 ≤ (selP C br bh s u).1 then (C 6 u).toInt64 else (selP C br bh s u).1) else 0), (selP C br bh s u).2 + (if br = 0 then 0 else if (C 5 u).toInt64 ≤ (selP C br bh s u).1 then (if (C 6 u).toInt64 ≤ (selP C br bh s u).1 then (C 6 u).toInt64 else (selP C br bh s u).1) else 0) * br) := by
  rw [selP_s]
  have hz : (0 : Int64).toInt = 0 := rfl
  obtain ⟨p, hp⟩ : ∃ p, p = selP C br bh s u := ⟨_, rfl⟩
  rw [← hp]
  by_cases h0 : br ≤ 0
  · rw [if_pos h0, if_pos (by rw [z_le] at h0; rw [z_eq]; omega), Int64.sub_zero, Int64.zero_mul, Int64.add_zero]
  · rw [if_neg h0, if_neg (ne_le0 h0)]
    by_cases h1 : p.1 < (C 5 u).toInt64
    · rw [if_pos h1, if_neg (fun z => by rw [z_le] at z; rw [z_lt] at h1; omega), Int64.sub_zero, Int64.zero_mul, Int64.add_zero]
    · have e : (if (C 6 u).toInt64 ≤ p.1 then (C 6 u).toInt64 else p.1) = if p.1 < (C 6 u).toInt64 then p.1 else (C 6 u).toInt64 := by
        by_cases h2 : p.1 < (C 6 u).toInt64
        · rw [if_pos h2, if_neg (fun z => by rw [z_le] at z; rw [z_lt] at h2; omega)]
        · rw [if_neg h2, if_pos (by rw [z_lt] at h2; rw [z_le]; omega)]
      rw [if_neg h1, if_pos (c := (C 5 u).toInt64 ≤ p.1) (by rw [z_lt] at h1; rw [z_le]; omega), e]
/-- giving back, from the last well to the first -/
def gdW (C : Cf) (br W : Int64) (w : Nat) (T : St) : St := if ret_ C T w = false then T else if W ≤ 0 then T else u2 (u2 T 5 w (partV C T br w W)) 12 2 (T 12 2 - partV C T br w W)
def gdN (C : Cf) (br W : Int64) (V : St) (n0 m : Nat) : St := itr (fun i T => gdW C br W (n0 - 1 - i) T) V m
theorem gdN_s {C : Cf} {br W : Int64} {V : St} {n0 n : Nat} (h : n < n0) : gdN C br W V n0 (n0 - n) = gdW C br W n (gdN C br W V n0 (n0 - (n + 1))) := by
  rw [show n0 - n = (n0 - (n + 1)) + 1 by omega]
  show gdW C br W (n0 - 1 - (n0 - (n + 1))) _ = _
  rw [show n0 - 1 - (n0 - (n + 1)) = n by omega]
  rfl
theorem gdW_c {C : Cf} {br W : Int64} {w : Nat} {T : St} {c : Nat} (h5 : ¬ c = 5) (h12 : ¬ c = 12) : gdW C br W w T c = T c := by
  unfold gdW
  split
  · rfl
  · split
    · rfl
    · rw [u2_c _ _ _ h12, u2_c _ _ _ h5]
theorem gdN_c {C : Cf} {br W : Int64} {V : St} {n0 m : Nat} {c : Nat} (h5 : ¬ c = 5) (h12 : ¬ c = 12) : gdN C br W V n0 m c = V c := itr_c (fun _ _ => gdW_c h5 h12) V m
def prt (C : Cf) (br W : Int64) (V : St) (j : Nat) : Int64 := if ret_ C V j = false then 0 else partV C V br j W
def smP (f : Nat → Int64) (n : Nat) : Int64 := itr (fun j a => a + f j) 0 n
theorem ret_6 {C : Cf} {S T : St} {w : Nat} (h : T 6 = S 6) : ret_ C T w = ret_ C S w := by
  unfold ret_
  rw [h]
theorem part_3 {C : Cf} {S T : St} {br W : Int64} {w : Nat} (h : T 3 = S 3) : partV C T br w W = partV C S br w W := by
  unfold partV lig
  rw [h]
theorem part_0 {C : Cf} {S : St} {br W : Int64} {w : Nat} (h : W ≤ 0) : partV C S br w W = 0 := by
  unfold partV
  rw [if_pos h]
  split <;> rfl
/-- all at once, whichever way -/
theorem gd_5 {C : Cf} {br W : Int64} {V : St} {n0 : Nat} (hW : ¬ W ≤ 0) : ∀ m, m ≤ n0 → ∀ j, gdN C br W V n0 m 5 j = if n0 - m ≤ j ∧ j < n0 ∧ ret_ C V j = true then partV C V br j W else V 5 j
  | 0, _, j => by
    rw [if_neg (by omega)]
    rfl
  | m + 1, hm, j => by
    show gdW C br W (n0 - 1 - m) (gdN C br W V n0 m) 5 j = _
    have ih := gd_5 (C := C) (br := br) (V := V) (n0 := n0) hW m (by omega) j
    unfold gdW
    rw [ret_6 (gdN_c (by decide) (by decide)), part_3 (gdN_c (by decide) (by decide))]
    by_cases hr : ret_ C V (n0 - 1 - m) = false
    · rw [if_pos hr, ih]
      by_cases hj : j = n0 - 1 - m
      · rw [if_neg (by rw [hj, hr]; simp), if_neg (by rw [hj, hr]; simp)]
      · by_cases hq : n0 - m ≤ j ∧ j < n0 ∧ ret_ C V j = true
        · rw [if_pos hq, if_pos ⟨by omega, hq.2⟩]
        · rw [if_neg hq, if_neg (fun z => hq ⟨by omega, z.2⟩)]
    · rw [if_neg hr, if_neg hW, u2_c _ _ _ (by decide), u2_ap]
      by_cases hj : j = n0 - 1 - m
      · rw [if_pos ⟨rfl, hj⟩, if_pos ⟨by omega, by omega, by rw [hj]; exact eq_true_of_ne_false hr⟩, hj]
      · rw [if_neg (fun z => hj z.2), ih]
        by_cases hq : n0 - m ≤ j ∧ j < n0 ∧ ret_ C V j = true
        · rw [if_pos hq, if_pos ⟨by omega, hq.2⟩]
        · rw [if_neg hq, if_neg (fun z => hq ⟨by omega, z.2⟩)]
theorem sm_s (f : Nat → Int64) (n : Nat) : smP f (n + 1) = smP f n + f n := rfl
theorem gd_12 {C : Cf} {br W : Int64} {V : St} {n0 : Nat} (hW : ¬ W ≤ 0) : ∀ m, m ≤ n0 → gdN C br W V n0 m 12 2 = V 12 2 - (smP (prt C br W V) n0 - smP (prt C br W V) (n0 - m))
  | 0, _ => by
    rw [Nat.sub_zero, Int64.sub_self, Int64.sub_zero]
    rfl
  | m + 1, hm => by
    show gdW C br W (n0 - 1 - m) (gdN C br W V n0 m) 12 2 = _
    have ih := gd_12 (C := C) (br := br) (V := V) (n0 := n0) hW m (by omega)
    have es : smP (prt C br W V) (n0 - m) = smP (prt C br W V) (n0 - (m + 1)) + prt C br W V (n0 - (m + 1)) := by
      rw [show n0 - m = (n0 - (m + 1)) + 1 by omega, sm_s]
    rw [es] at ih
    have en : n0 - 1 - m = n0 - (m + 1) := by omega
    rw [en]
    unfold gdW
    rw [ret_6 (gdN_c (by decide) (by decide)), part_3 (gdN_c (by decide) (by decide))]
    obtain ⟨a, ha⟩ : ∃ a, a = smP (prt C br W V) n0 := ⟨_, rfl⟩
    obtain ⟨b, hb⟩ : ∃ b, b = smP (prt C br W V) (n0 - (m + 1)) := ⟨_, rfl⟩
    rw [← ha, ← hb] at ih ⊢
    by_cases hr : ret_ C V (n0 - (m + 1)) = false
    · rw [if_pos hr, ih]
      unfold prt
      rw [if_pos hr, Int64.add_zero]
    · rw [if_neg hr, if_neg hW, u2_same, ih]
      unfold prt
      rw [if_neg hr]
      obtain ⟨x, hx⟩ : ∃ x, x = partV C V br (n0 - (m + 1)) W := ⟨_, rfl⟩
      rw [← hx]
      grind
theorem lft_m {C : Cf} {br W : Int64} {V : St} : ∀ n, lft C br W V n = br - smP (prt C br W V) n
  | 0 => by
    show br = br - 0
    rw [Int64.sub_zero]
  | n + 1 => by
    have ih := lft_m (C := C) (br := br) (W := W) (V := V) n
    show (if ret_ C (itr (gb1 C br W) V n) n = false then lft C br W V n else lft C br W V n - partV C (itr (gb1 C br W) V n) br n W) = _
    rw [ret_6 (itr_c (fun _ _ => gb1_c (by decide)) V n), part_3 (itr_c (fun _ _ => gb1_c (by decide)) V n), sm_s, ih]
    obtain ⟨s, hs⟩ : ∃ s, s = smP (prt C br W V) n := ⟨_, rfl⟩
    rw [← hs]
    unfold prt
    by_cases hr : ret_ C V n = false
    · rw [if_pos hr, if_pos hr, Int64.add_zero]
    · rw [if_neg hr, if_neg hr]
      obtain ⟨x, hx⟩ : ∃ x, x = partV C V br n W := ⟨_, rfl⟩
      rw [← hx]
      grind

theorem gdW_12 {C : Cf} {br W : Int64} {w : Nat} {T : St} {i : Nat} (h : ¬ i = 2) : gdW C br W w T 12 i = T 12 i := by
  unfold gdW
  split
  · rfl
  · split
    · rfl
    · rw [u2_ne _ _ _ h, u2_c _ _ _ (by decide)]
theorem gdN_12 {C : Cf} {br W : Int64} {V : St} {n0 : Nat} {i : Nat} (h : ¬ i = 2) : ∀ m, gdN C br W V n0 m 12 i = V 12 i
  | 0 => rfl
  | m + 1 => (gdW_12 h).trans (gdN_12 h m)
theorem gdN_0 {C : Cf} {br W : Int64} {V : St} {n0 : Nat} (hW : W ≤ 0) : ∀ m, gdN C br W V n0 m = V
  | 0 => rfl
  | m + 1 => by
    show gdW C br W _ (gdN C br W V n0 m) = V
    rw [gdN_0 hW m]
    unfold gdW
    rw [if_pos hW]
    split <;> rfl
theorem gb1_0 {C : Cf} {br W : Int64} {V : St} (hW : W ≤ 0) : ∀ n, (∀ j, j < n → ret_ C V j = true → V 5 j = 0) → itr (gb1 C br W) V n = V
  | 0, _ => rfl
  | n + 1, h => by
    show gb1 C br W n (itr (gb1 C br W) V n) = V
    rw [gb1_0 hW n (fun j hj => h j (by omega))]
    unfold gb1
    by_cases hr : ret_ C V n = false
    · rw [if_pos hr]
    · rw [if_neg hr, part_0 hW, u2_eqv (h n (by omega) (eq_true_of_ne_false hr)).symm]
theorem smP_0 {C : Cf} {br W : Int64} {V : St} (hW : W ≤ 0) : ∀ n, smP (prt C br W V) n = 0
  | 0 => rfl
  | n + 1 => by
    rw [sm_s, smP_0 hW n]
    unfold prt
    rw [part_0 hW]
    split <;> rfl
theorem prt_v {C : Cf} {br W x : Int64} {V : St} {i : Nat} : prt C br W (u2 V 12 i x) = prt C br W V := by
  funext j
  unfold prt
  rw [ret_6 (u2_c V i x (show ¬ 6 = 12 by decide)), part_3 (u2_c V i x (show ¬ 3 = 12 by decide))]
theorem gd_eq {C : Cf} {br W : Int64} {V : St} {n0 : Nat} (h5 : ∀ j, j < n0 → ret_ C V j = true → V 5 j = 0) : gdN C br W (u2 V 12 2 (V 12 2 + br)) n0 n0 = u2 (itr (gb1 C br W) V n0) 12 2 (itr (gb1 C br W) V n0 12 2 + lft C br W V n0) := by
  have e12 : itr (gb1 C br W) V n0 12 = V 12 := itr_c (fun _ _ => gb1_c (by decide)) V n0
  rw [lft_m]
  by_cases hW : W ≤ 0
  · rw [gdN_0 hW, gb1_0 hW n0 h5, smP_0 hW, Int64.sub_zero]
  · funext c i
    by_cases hc : c = 12
    · subst hc
      by_cases hi : i = 2
      · subst hi
        rw [gd_12 hW n0 (Nat.le_refl _), u2_same, u2_same, e12, Nat.sub_self, prt_v]
        show _ - (smP (prt C br W V) n0 - 0) = _
        obtain ⟨a, ha⟩ : ∃ a, a = smP (prt C br W V) n0 := ⟨_, rfl⟩
        rw [← ha]
        grind
      · rw [gdN_12 hi, u2_ne _ _ _ hi, u2_ne _ _ _ hi, e12]
    · rw [u2_c (itr (gb1 C br W) V n0) 2 _ hc]
      by_cases hc5 : c = 5
      · subst hc5
        rw [gd_5 hW n0 (Nat.le_refl _), gb1_5, ret_6 (u2_c V 2 _ (show ¬ 6 = 12 by decide)), part_3 (u2_c V 2 _ (show ¬ 3 = 12 by decide)), u2_c V 2 _ hc]
        by_cases hq : i < n0 ∧ ret_ C V i = true
        · rw [if_pos hq, if_pos ⟨by omega, hq⟩]
        · rw [if_neg hq, if_neg (fun z => hq z.2)]
      · rw [gdN_c hc5 hc, u2_c V 2 _ hc, show itr (gb1 C br W) V n0 c = V c from itr_c (fun _ _ => gb1_c hc5) V n0]
theorem drawS_5 {C : Cf} {N : Nat → Nat} {S : St} {w j : Nat} (h : ¬ j = w) : drawS C N S w 5 j = S 5 j := by
  unfold drawS
  rw [itr_c (fun n T => chgS_c (by decide)), dr3_c (by decide) (by decide)]
  unfold dr1
  rw [findS_oth _ _ _ (by decide) (by decide), giveS_c (by decide) (by decide) (by decide), u2_ne _ _ _ h]
theorem dw_5 {C : Cf} {N : Nat → Nat} {S : St} {j : Nat} (h : ¬ C 3 j = 0) : ∀ n, itr (dwS C N) S n 5 j = S 5 j
  | 0 => rfl
  | n + 1 => by
    show dwS C N n (itr (dwS C N) S n) 5 j = _
    unfold dwS
    by_cases hj : j = n
    · rw [if_pos (dwS_n1 (C := C) (N := N) (by rw [← hj]; exact h))]
      exact dw_5 h n
    · split
      · exact dw_5 h n
      · rw [drawS_5 hj]
        exact dw_5 h n
theorem gb2_l {C : Cf} {N : Nat → Nat} {T : St} {w : Nat} {hot : Int64} (h3 : R01 C N) (hw : w < N 0) (h1 : C 3 w = nI 1) (h0 : ret_ C T w = false → T 5 w = 0) : u2 (takeS T (plN C w) (T 5 w) hot) 3 (plN C w) (T 3 (plN C w) + T 5 w) = gb2 C hot w T := by
  unfold gb2
  by_cases hr : ret_ C T w = false
  · rw [if_pos hr, h0 hr]
    unfold takeS
    rw [Int64.add_zero, Int64.zero_mul, Int64.add_zero, Int64.add_zero, u2_self, u2_self, u2_self]
  · rw [if_neg hr]
theorem ret_n {C : Cf} {S : St} {w : Nat} (h : ¬ C 3 w = nI 1) (h3 : C 3 w = 0 ∨ C 3 w = nI 1) : ret_ C S w = false := by
  unfold ret_
  rw [if_pos (h3.resolve_right h)]
theorem ret_s {C : Cf} {S : St} {w : Nat} (h : ¬ (S 6 w).toInt32 = 0) : ret_ C S w = false := by
  unfold ret_
  by_cases h1 : C 3 w = 0
  · rw [if_pos h1]
  · rw [if_neg h1, if_pos h]
theorem ret_y {C : Cf} {S : St} {w : Nat} (h : C 3 w = nI 1) (h2 : (S 6 w).toInt32 = 0) : ¬ ret_ C S w = false := by
  unfold ret_
  rw [if_neg (by rw [h]; decide), if_neg (fun z => z h2)]
  decide
theorem gdW_n {C : Cf} {br W : Int64} {w : Nat} {T : St} (h : ret_ C T w = false) : gdW C br W w T = T := by
  unfold gdW
  rw [if_pos h]
theorem gdW_w {C : Cf} {br W : Int64} {w : Nat} {T : St} (h : W ≤ 0) : gdW C br W w T = T := by
  unfold gdW
  rw [if_pos h]
  split <;> rfl
/-- the part of a well that is open: its light is no red one -/
theorem part_l {C : Cf} {T : St} {br W : Int64} {w : Nat} (hW : ¬ W ≤ 0) (h2 : T 3 (plN C w) ≤ 1999) : (if T 3 (plN C w) ≤ 999 then br * (C 4 w).toInt64 / W else br * (C 4 w).toInt64 / W / 2) = partV C T br w W := by
  unfold partV
  rw [if_neg hW]
  by_cases h : T 3 (plN C w) ≤ 999
  · rw [if_pos h, if_pos (fun z => (lg_9 _).mp h ((lig_1 T _).mp z).1)]
  · rw [if_neg h, if_neg (fun z => z ((lig_1 T _).mpr ⟨Decidable.not_not.mp (fun w => h ((lg_9 _).mpr w)), (lg_19 _).mp h2⟩))]
theorem i32r {x : Int64} (h0 : 0 ≤ x.toInt) (h1 : x.toInt ≤ 2000000000) : x.toInt32.toInt64 = x := by
  rw [z_eq, Int32.toInt_toInt64, Int64.toInt_toInt32]
  exact Int.bmod_eq_of_le (by omega) (by omega)
theorem mst_s {C : Cf} {N : Nat → Nat} {S : St} {w : Nat} (h1 : C 3 w = nI 1) (h : (bL (mst C N S w)).toInt32 = 0) : S 3 (plN C w) ≤ 1999 := by
  have hm : mst C N S w = false := by
    rw [bL_32, bI_eq] at h
    exact h
  unfold mst at hm
  rw [if_neg (by rw [h1]; decide)] at hm
  exact (lg_19 _).mpr (fun z => of_decide_eq_false hm ((lig_2 S _).mpr z))

theorem ret_nz {C : Cf} {S : St} {w : Nat} (h : ret_ C S w = true) : ¬ C 3 w = 0 := by
  intro z
  unfold ret_ at h
  rw [if_pos z] at h
  exact absurd h (by decide)
theorem sh_3 {C : Cf} {N : Nat → Nat} {S : St} {w : Nat} (hw : w < N 0) (h1 : C 3 w = nI 1) (h : (itr (shW C N) S (N 0) 6 w).toInt32 = 0) : itr (shW C N) S (N 0) 3 (plN C w) ≤ 1999 := by
  rw [sh_6 S (N 0) w hw] at h
  rw [show itr (shW C N) S (N 0) 3 = S 3 from itr_c (fun n T => shW_c (by decide) (by decide)) S (N 0)]
  exact mst_s h1 h
theorem dwS_3 (C : Cf) (N : Nat → Nat) (S : St) : ∀ n, itr (dwS C N) S n 3 = S 3 := by
  refine itr_c (fun n T => ?_) S
  unfold dwS
  split
  · rfl
  · exact drawS_13 (by decide) (by decide) (by decide) (by decide) (by decide) (by decide) (by decide) (by decide) (by decide)
theorem wgt_6 {C : Cf} {S T : St} (h : T 6 = S 6) (n : Nat) : wgt C T n = wgt C S n := by
  unfold wgt
  exact itr_congr n 0 (fun i _ x => by rw [ret_6 h])
theorem wl_C {C : Cf} {N : Nat → Nat} {S SA SB SC : St} {z : Int64} (lrA : SA = itr (shW C N) S (N 0)) (eB : SB = itr (dwS C N) SA (N 0)) (lrC : SC = u2 SB 12 5 z) : (SC 3 = SA 3 ∧ SC 6 = SA 6) ∧ (∀ w, w < N 0 → C 3 w = nI 1 → (SC 6 w).toInt32 = 0 → SC 3 (plN C w) ≤ 1999) ∧ (∀ j, j < N 0 → ¬ C 3 j = 0 → SC 5 j = 0) ∧ (∀ n, wgt C SC n = wgt C SA n) := by
  have e3 : SC 3 = SA 3 := by rw [lrC, u2_c _ _ _ (by decide), eB, dwS_3]
  have e6 : SC 6 = SA 6 := by rw [lrC, u2_c _ _ _ (by decide), eB, dwS_6]
  refine ⟨⟨e3, e6⟩, fun w hw h1 h2 => ?_, fun j hj h => ?_, wgt_6 e6⟩
  · rw [e6, lrA] at h2
    rw [e3, lrA]
    exact sh_3 hw h1 h2
  · rw [lrC, u2_c _ _ _ (by decide), eB, dw_5 h, lrA]
    exact sh_5 S (N 0) j hj
theorem wl_V {C : Cf} {N : Nat → Nat} {SC SE : St} {br W z : Int64} (hC : Cok C N) (h0 : 0 ≤ br.toInt) (h1 : br.toInt ≤ 10000) (h5 : ∀ j, j < N 0 → ¬ C 3 j = 0 → SC 5 j = 0) (lrE : SE = u2 (itr (gb1 C br W) SC (N 0)) 12 2 z) : ∀ j, j < N 0 → (C 3 j = nI 1 → 0 ≤ (SE 5 j).toInt ∧ (SE 5 j).toInt ≤ 10000000) ∧ (C 3 j = nI 1 → ret_ C SE j = false → SE 5 j = 0) := by
  intro j hj
  have e : SE 5 j = if j < N 0 ∧ ret_ C SC j = true then partV C SC br j W else SC 5 j := by rw [lrE, u2_c _ _ _ (by decide), gb1_5]
  have er : ret_ C SE j = ret_ C SC j := by
    rw [lrE]
    refine ret_6 ?_
    rw [u2_c _ _ _ (by decide)]
    exact itr_c (fun _ _ => gb1_c (by decide)) SC (N 0)
  have hz : ((0 : Int64)).toInt = 0 := rfl
  refine ⟨fun h3 => ?_, fun h3 hr => ?_⟩
  · have hn : ¬ C 3 j = 0 := by rw [h3]; decide
    rw [e]
    by_cases hq : j < N 0 ∧ ret_ C SC j = true
    · rw [if_pos hq]
      exact part_ok (hC.mu hj) h0 h1
    · rw [if_neg hq, h5 j hj hn, hz]
      omega
  · have hn : ¬ C 3 j = 0 := by rw [h3]; decide
    rw [er] at hr
    rw [e, if_neg (fun q => by rw [hr] at q; exact absurd q.2 (by decide)), h5 j hj hn]
theorem wl_end {C : Cf} {N : Nat → Nat} {S SA SB SC SE SF : St} {br bh W hot : Int64} (lrA : SA = itr (shW C N) S (N 0)) (eB : SB = itr (dwS C N) SA (N 0)) (ebr : br = brn C N SA (N 0)) (ebh : bh = brh C N SA (N 0)) (eW : W = wgt C SA (N 0)) (lrC : SC = u2 SB 12 5 (selP C br bh (SB 12 5) (N 1)).2) (eh : hot = (selP C br bh (SB 12 5) (N 1)).1) (lrE : SE = u2 (itr (gb1 C br W) SC (N 0)) 12 2 (itr (gb1 C br W) SC (N 0) 12 2 + lft C br W SC (N 0))) (eF : SF = itr (gb2 C hot) SE (N 0)) : SF = wlS C N S := by
  have ew := (wl_C lrA eB lrC).2.2.2 (N 0)
  rw [← ew] at eW
  have e : SF = gbS C N SC br hot := by
    rw [eF, lrE, eW]
    rfl
  rw [e, lrC, eh, ebr, ebh, eB, lrA]
  rfl

