/-! rain and warmth, as the law has them -/
theorem deg_b {S : St} {b : Nat} (hw : 0 ≤ (S 0 b).toInt ∧ (S 0 b).toInt ≤ 1099511627776) : -1000000000000000 ≤ (deg S b).toInt ∧ (deg S b).toInt ≤ 1000000000000000 := by
  have h2 : (20000 : Int64).toInt = 20000 := rfl
  have e : (S 0 b + 20000).toInt = (S 0 b).toInt + 20000 := by rw [z_add (by omega) (by omega), h2]
  have hr := Int64.toInt_lt (S 1 b)
  have hl := Int64.le_toInt (S 1 b)
  have hq : ((S 1 b).toInt.tdiv ((S 0 b).toInt + 20000)).natAbs ≤ 1000000000000000 := by
    rw [Int.natAbs_tdiv]
    refine Nat.le_trans (Nat.div_le_div_left (c := 20000) (by omega) (by decide)) ?_
    omega
  have hd : (deg S b).toInt = (S 1 b).toInt.tdiv ((S 0 b).toInt + 20000) := by
    unfold deg
    rw [Int64.toInt_div, e]
    exact Int.bmod_eq_of_le (by omega) (by omega)
  rw [hd]
  omega
def fiS (C : Cf) (X : St) (b : Nat) (T : St) : St := u2 (u2 (u2 T 0 b (if b ≤ 7 then X 0 b else X 0 b + (C 10 0).toInt64)) 1 b (if b ≤ 7 then X 1 b else X 1 b + 80 * (C 10 0).toInt64)) 2 b (X 2 b)
def lwS (C : Cf) (X : St) (b : Nat) (T : St) : St := warmS (fiS C X b T) b
theorem fi_b {C : Cf} {X T : St} {b : Nat} {k : Int} (hR : Rok C) (h0 : 0 ≤ (X 0 b).toInt ∧ (X 0 b).toInt ≤ k) (hk : k + 1000 ≤ 1099511627776) : 0 ≤ (fiS C X b T 0 b).toInt ∧ (fiS C X b T 0 b).toInt ≤ 1099511627776 := by
  have e : fiS C X b T 0 b = if b ≤ 7 then X 0 b else X 0 b + (C 10 0).toInt64 := by
    unfold fiS
    rw [u2_ap, if_neg (by simp), u2_ap, if_neg (by simp), u2_same]
  rw [e]
  have hr := hR
  unfold Rok at hr
  by_cases h : b ≤ 7
  · rw [if_pos h]
    omega
  · have e2 : (X 0 b + (C 10 0).toInt64).toInt = (X 0 b).toInt + (C 10 0).toInt := by rw [z_add (by rw [Int32.toInt_toInt64]; omega) (by rw [Int32.toInt_toInt64]; omega), Int32.toInt_toInt64]
    rw [if_neg h, e2]
    omega
theorem ne_b {T : St} {b : Nat} (h : 0 ≤ (T 0 b).toInt ∧ (T 0 b).toInt ≤ 1099511627776) : ¬ T 0 b + 20000 ≤ 0 := by
  have h2 : (20000 : Int64).toInt = 20000 := rfl
  have h0 : (0 : Int64).toInt = 0 := rfl
  intro z
  rw [z_le, z_add (by omega) (by omega), h2, h0] at z
  omega
theorem warm_l {T : St} {b : Nat} (h : 0 ≤ (T 0 b).toInt ∧ (T 0 b).toInt ≤ 1099511627776) : u2 T 1 b (T 1 b + (if 300 - deg T b ≤ 0 then 0 else 50 * (300 - deg T b))) = warmS T b := by
  have hb := deg_b h
  have h3 : (300 : Int64).toInt = 300 := rfl
  have h0 : (0 : Int64).toInt = 0 := rfl
  have e : (300 - deg T b).toInt = 300 - (deg T b).toInt := by rw [z_sub (by omega) (by omega), h3]
  have q : (300 - deg T b ≤ 0) ↔ (300 ≤ deg T b) := by rw [z_le, z_le, e, h3, h0]; omega
  unfold warmS
  by_cases h1 : 300 ≤ deg T b
  · rw [if_pos h1, if_pos (q.mpr h1), Int64.add_zero, u2_self]
  · rw [if_neg h1, if_neg (fun z => h1 (q.mp z))]
/-- a block is warmed alone -/
theorem warm_at {S T : St} {b : Nat} (h0 : S 0 b = T 0 b) (h1 : S 1 b = T 1 b) : warmS S b 1 b = warmS T b 1 b := by
  unfold warmS deg
  rw [h0, h1]
  split
  · exact h1
  · rw [u2_same, u2_same]
theorem warm_o (S : St) {b c j : Nat} (h : ¬ (c = 1 ∧ j = b)) : warmS S b c j = S c j := by
  unfold warmS
  split
  · rfl
  · rw [u2_ap, if_neg h]
theorem lw_o (C : Cf) (X T : St) {b c j : Nat} (h : ¬ (j = b ∧ (c = 0 ∨ c = 1 ∨ c = 2))) : lwS C X b T c j = T c j := by
  unfold lwS
  rw [warm_o _ (fun z => h ⟨z.2, Or.inr (Or.inl z.1)⟩)]
  unfold fiS
  rw [u2_ap, if_neg (fun z => h ⟨z.2, Or.inr (Or.inr z.1)⟩), u2_ap, if_neg (fun z => h ⟨z.2, Or.inr (Or.inl z.1)⟩), u2_ap, if_neg (fun z => h ⟨z.2, Or.inl z.1⟩)]
theorem ra_o (C : Cf) (T : St) {b c j : Nat} (h : ¬ (j = b ∧ (c = 0 ∨ c = 1))) (h12 : ¬ (c = 12 ∧ j = 4)) : raS C b T c j = T c j := by
  unfold raS
  rw [warm_o _ (fun z => h ⟨z.2, Or.inr z.1⟩)]
  unfold rnS
  split
  · rfl
  · unfold takeS
    rw [u2_ap, if_neg h12, u2_ap, if_neg (fun z => h ⟨z.2, Or.inr z.1⟩), u2_ap, if_neg (fun z => h ⟨z.2, Or.inl z.1⟩)]
theorem ra_r (C : Cf) {S T : St} {b : Nat} (h0 : S 0 b = T 0 b) (h1 : S 1 b = T 1 b) : rnS C b S 0 b = rnS C b T 0 b ∧ rnS C b S 1 b = rnS C b T 1 b := by
  unfold rnS
  split
  · exact ⟨h0, h1⟩
  · unfold takeS
    simp only [u2_ap]
    simp [h0, h1]
theorem ra_s (C : Cf) {S T : St} {b c : Nat} (hc : c = 0 ∨ c = 1 ∨ c = 2) (h0 : S 0 b = T 0 b) (h1 : S 1 b = T 1 b) (h2 : S 2 b = T 2 b) : raS C b S c b = raS C b T c b := by
  have hr := ra_r C h0 h1
  rcases hc with rfl | rfl | rfl
  · unfold raS
    rw [warm_o _ (by simp), warm_o _ (by simp)]
    exact hr.1
  · unfold raS
    exact warm_at hr.1 hr.2
  · rw [ra_o C S (by simp) (by simp), ra_o C T (by simp) (by simp)]
    exact h2
theorem lw_ra1 (C : Cf) {X S T : St} {b c : Nat} (hc : c = 0 ∨ c = 1 ∨ c = 2) (h0 : X 0 b = T 0 b) (h1 : X 1 b = T 1 b) (h2 : X 2 b = T 2 b) : lwS C X b S c b = raS C b T c b := by
  have e0 : fiS C X b S 0 b = rnS C b T 0 b := by
    unfold fiS rnS takeS
    rw [u2_ap, if_neg (by simp), u2_ap, if_neg (by simp), u2_same]
    by_cases hb : b ≤ 7
    · rw [if_pos hb, if_pos (show b < 8 by omega)]
      exact h0
    · rw [if_neg hb, if_neg (show ¬ b < 8 by omega), u2_ap, if_neg (by simp), u2_ap, if_neg (by simp), u2_same, h0]
  have e1 : fiS C X b S 1 b = rnS C b T 1 b := by
    unfold fiS rnS takeS
    rw [u2_ap, if_neg (by simp), u2_same]
    by_cases hb : b ≤ 7
    · rw [if_pos hb, if_pos (show b < 8 by omega)]
      exact h1
    · rw [if_neg hb, if_neg (show ¬ b < 8 by omega), u2_ap, if_neg (by simp), u2_same, h1, Int64.mul_comm]
  rcases hc with rfl | rfl | rfl
  · unfold lwS raS
    rw [warm_o _ (by simp), warm_o _ (by simp)]
    exact e0
  · unfold lwS raS
    exact warm_at e0 e1
  · rw [ra_o C T (by simp) (by simp)]
    unfold lwS
    rw [warm_o _ (by simp)]
    unfold fiS
    rw [u2_same]
    exact h2
theorem lws_at (C : Cf) (X S : St) {c j : Nat} : ∀ n, itr (lwS C X) S n c j = if j < n ∧ (c = 0 ∨ c = 1 ∨ c = 2) then lwS C X j S c j else S c j
  | 0 => by
    rw [if_neg (by omega)]
    rfl
  | n + 1 => by
    show lwS C X n (itr (lwS C X) S n) c j = _
    by_cases h : j = n ∧ (c = 0 ∨ c = 1 ∨ c = 2)
    · rw [if_pos ⟨by omega, h.2⟩, h.1]
      rw [lw_ra1 C (S := itr (lwS C X) S n) (T := X) h.2 rfl rfl rfl, lw_ra1 C (S := S) (T := X) h.2 rfl rfl rfl]
    · rw [lw_o C X _ h, lws_at C X S n]
      by_cases h2 : j < n ∧ (c = 0 ∨ c = 1 ∨ c = 2)
      · rw [if_pos h2, if_pos ⟨by omega, h2.2⟩]
      · rw [if_neg h2, if_neg (fun z => h2 ⟨by have := fun e => h ⟨e, z.2⟩; omega, z.2⟩)]
theorem ras_at (C : Cf) (T : St) {c j : Nat} (h12 : ¬ (c = 12 ∧ j = 4)) : ∀ n, itr (raS C) T n c j = if j < n ∧ (c = 0 ∨ c = 1 ∨ c = 2) then raS C j T c j else T c j
  | 0 => by
    rw [if_neg (by omega)]
    rfl
  | n + 1 => by
    show raS C n (itr (raS C) T n) c j = _
    by_cases h : j = n ∧ (c = 0 ∨ c = 1 ∨ c = 2)
    · rw [if_pos ⟨by omega, h.2⟩, h.1]
      have q : ∀ c, c = 0 ∨ c = 1 ∨ c = 2 → itr (raS C) T n c n = T c n := fun c hc => by
        rw [ras_at C T (by omega) n, if_neg (by omega)]
      exact ra_s C h.2 (q 0 (by simp)) (q 1 (by simp)) (q 2 (by simp))
    · by_cases h01 : j = n ∧ (c = 0 ∨ c = 1)
      · exact absurd ⟨h01.1, by omega⟩ h
      · rw [ra_o C _ h01 h12, ras_at C T h12 n]
        by_cases h2 : j < n ∧ (c = 0 ∨ c = 1 ∨ c = 2)
        · rw [if_pos h2, if_pos ⟨by omega, h2.2⟩]
        · rw [if_neg h2, if_neg (fun z => h2 ⟨by have := fun e => h ⟨e, z.2⟩; omega, z.2⟩)]
theorem ra_124 (C : Cf) (T : St) (b : Nat) : raS C b T 12 4 = if b < 8 then T 12 4 else T 12 4 + (C 10 0).toInt64 := by
  unfold raS
  rw [warm_o _ (by simp)]
  unfold rnS
  split
  · rfl
  · rw [u2_same]
theorem ras_124 (C : Cf) (T : St) : itr (raS C) T 12 12 4 = T 12 4 + 4 * (C 10 0).toInt64 := by
  rw [itr_12]
  rw [ra_124, ra_124, ra_124, ra_124, ra_124, ra_124, ra_124, ra_124, ra_124, ra_124, ra_124, ra_124]
  rw [if_neg (by decide), if_neg (by decide), if_neg (by decide), if_neg (by decide), if_pos (by decide), if_pos (by decide), if_pos (by decide), if_pos (by decide), if_pos (by decide), if_pos (by decide), if_pos (by decide), if_pos (by decide)]
  generalize T 12 4 = x
  generalize (C 10 0).toInt64 = r
  grind
theorem fb_3 (S Z : St) (a b : Nat) (wd : Int32) : fbS S Z a b wd 3 = S 3 := by
  unfold fbS flowS takeS
  (repeat' split) <;> rfl
theorem crk_3 (C : Cf) (S : St) : crk C S 3 = S 3 := by
  rw [crk_u]
  repeat rw [fb_3]
theorem lw_ra (C : Cf) {S X : St} (hX : ∀ b, b < 12 → ∀ c, c = 0 ∨ c = 1 ∨ c = 2 → X c b = crk C S c b) : u2 (itr (lwS C X) S 12) 12 4 (itr (lwS C X) S 12 12 4 + 4 * (C 10 0).toInt64) = itr (raS C) (crk C S) 12 := by
  funext c j
  rw [u2_ap]
  have e12 : itr (lwS C X) S 12 12 4 = S 12 4 := by rw [lws_at, if_neg (by omega)]
  by_cases h : c = 12 ∧ j = 4
  · rw [if_pos h, h.1, h.2, ras_124, e12, crk_oth C S (show ¬ 12 ≤ 3 by decide)]
  · rw [if_neg h, lws_at, ras_at C _ h]
    by_cases h2 : j < 12 ∧ (c = 0 ∨ c = 1 ∨ c = 2)
    · rw [if_pos h2, if_pos h2]
      exact lw_ra1 C h2.2 (hX j h2.1 0 (by simp)) (hX j h2.1 1 (by simp)) (hX j h2.1 2 (by simp))
    · rw [if_neg h2, if_neg h2]
      by_cases hc : c = 0 ∨ c = 1 ∨ c = 2
      · exact (crk_far C S c (by omega) hc).symm
      · by_cases h3 : c = 3
        · rw [h3]
          exact (congrFun (crk_3 C S) j).symm
        · exact (congrFun (crk_oth C S (by omega)) j).symm
theorem fe_l {C : Cf} {S : St} {k : Nat} (h0 : 0 ≤ (S 0 (spN C k)).toInt) : (if (C 8 k).toInt64 ≤ S 0 (spN C k) then (if S 0 (spN C k) ≤ 4999 then S 0 (spN C k) / 100 else 50) else 0) = feG C S k := by
  unfold feG
  by_cases h : S 0 (spN C k) < (C 8 k).toInt64
  · rw [if_pos h, if_neg (fun z => by rw [z_le] at z; rw [z_lt] at h; omega)]
  · rw [if_neg h, if_pos (by rw [z_lt] at h; rw [z_le]; omega)]
    have h1 : (4999 : Int64).toInt = 4999 := rfl
    have h2 : (100 : Int64).toInt = 100 := rfl
    have h5 : (50 : Int64).toInt = 50 := rfl
    have hd : (S 0 (spN C k) / 100).toInt = (S 0 (spN C k)).toInt / 100 := by rw [dv_gen h0 (by omega), h2]
    by_cases h3 : S 0 (spN C k) ≤ 4999
    · rw [if_pos h3, if_neg (fun z => by rw [z_le] at h3; rw [z_lt, hd] at z; omega)]
    · rw [if_neg h3]
      by_cases h4 : 50 < S 0 (spN C k) / 100
      · rw [if_pos h4]
      · rw [if_neg h4, z_eq, hd]
        rw [z_le] at h3
        rw [z_lt, hd] at h4
        omega
theorem fe_x {C : Cf} {S : St} {k : Nat} (h0 : 0 ≤ (S 0 (spN C k)).toInt) : feG C S k = 0 ∨ ¬ S 0 (spN C k) ≤ 0 := by
  have h := feG_ok (C := C) (S := S) (k := k) h0
  have hz : (0 : Int64).toInt = 0 := rfl
  by_cases h1 : S 0 (spN C k) ≤ 0
  · rw [z_le] at h1
    refine Or.inl ?_
    rw [z_eq]
    omega
  · exact Or.inr h1
theorem fe_n {C : Cf} {T : St} {k : Nat} (h : feG C T k ≤ 0) : u2 (u2 (u2 (giveS T (spN C k) (feG C T k)) 9 k (feG C T k)) 10 k (giveS T (spN C k) (feG C T k) 10 k + 1)) 12 3 (giveS T (spN C k) (feG C T k) 12 3 + feG C T k) = feS C k T := by
  unfold feS noteS
  rw [if_pos h]
  rfl
theorem clr_at (k : Nat) (V : St) (c i : Nat) : ∀ n, clrS k V n c i = if c = 11 ∧ 10 * k ≤ i ∧ i < 10 * k + n then 0 else V c i
  | 0 => by
    rw [if_neg (by omega)]
    rfl
  | n + 1 => by
    show u2 (clrS k V n) 11 (10 * k + n) 0 c i = _
    rw [u2_ap, clr_at k V c i n]
    by_cases h : c = 11 ∧ i = 10 * k + n
    · rw [if_pos h, if_pos (by omega)]
    · rw [if_neg h]
      by_cases h2 : c = 11 ∧ 10 * k ≤ i ∧ i < 10 * k + n
      · rw [if_pos h2, if_pos (by omega)]
      · rw [if_neg h2, if_neg (by omega)]
theorem fe_y {y : Nat → Nat} {cI cJ : ClassId} {N : Nat → Nat} {Q : Nat → Int64} {C : Cf} {T : St} {k : Nat} (h : ¬ feG C T k ≤ 0) : wL y cI cJ C N (clrS k (u2 (u2 (u2 (giveS T (spN C k) (feG C T k)) 9 k (feG C T k)) 10 k 0) 12 3 (giveS T (spN C k) (feG C T k) 12 3 + feG C T k)) 8) Q = wL y cI cJ C N (feS C k T) Q := by
  have e : feS C k T = u2 (clrS k (u2 (u2 (giveS T (spN C k) (feG C T k)) 9 k (feG C T k)) 10 k 0) 10) 12 3 (giveS T (spN C k) (feG C T k) 12 3 + feG C T k) := by
    unfold feS noteS
    rw [if_neg h, clr_at, if_neg (by omega)]
    rfl
  rw [e]
  refine wL_A (fun c hc => ?_) (fun j n hn => ?_)
  · funext i
    rw [clr_at, if_neg (fun z => hc z.1), u2_ap _ 12 3 _ c i, u2_ap _ 12 3 _ c i, clr_at, if_neg (c := c = 11 ∧ 10 * k ≤ i ∧ i < 10 * k + 10) (fun z => hc z.1)]
  · rw [clr_at, u2_c _ _ _ (show ¬ 11 = 12 by decide), u2_c _ _ _ (show ¬ 11 = 12 by decide), clr_at]
    by_cases hj : j = k
    · rw [if_pos (by omega), if_pos (by omega)]
    · rw [if_neg (by omega), if_neg (by omega)]
def grS (C : Cf) (N : Nat → Nat) (S : St) : St := itr (feS C) (itr (raS C) (crk C (itr shS S 12)) 12) (N 2)
theorem grS_m (C : Cf) (N : Nat → Nat) (S : St) : grS C N (m4S C N S) = monS C N S := rfl

