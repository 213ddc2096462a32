/-! the cracks, block by block -/
/-- what b gains from its neighbour o, of water, heat and tracer -/
def fwL (S : St) (o b : Nat) (wd : Int32) : Int64 := if S 0 o ≤ S 0 b then (if S 0 b ≤ S 0 o then 0 else -((S 0 b - S 0 o) * wd.toInt64 / 1000)) else (S 0 o - S 0 b) * wd.toInt64 / 1000
def fhL (S : St) (o b : Nat) (wd : Int32) : Int64 := if S 0 o ≤ S 0 b then (if S 0 b ≤ S 0 o then 0 else -((S 0 b - S 0 o) * wd.toInt64 / 1000 * deg S b)) else (S 0 o - S 0 b) * wd.toInt64 / 1000 * deg S o
def ftL (S : St) (o b : Nat) (wd : Int32) : Int64 := if S 0 o ≤ S 0 b then (if S 0 b ≤ S 0 o then 0 else -(S 2 b * ((S 0 b - S 0 o) * wd.toInt64 / 1000) / S 0 b)) else S 2 o * ((S 0 o - S 0 b) * wd.toInt64 / 1000) / S 0 o
def zrL (S : St) : St := fun c b => if c = 0 then S 0 b else if c = 1 then deg S b else S 2 b
theorem fb_0 {S T : St} {a b : Nat} {wd : Int32} (h : ¬ a = b) (j : Nat) : fbS T (zrL S) a b wd 0 j = T 0 j + (if j = a then fwL S b a wd else if j = b then fwL S a b wd else 0) := by
  have e0 : zrL S 0 = S 0 := rfl
  have e1 : zrL S 1 = deg S := rfl
  have e2 : zrL S 2 = S 2 := rfl
  have hb : ¬ b = a := fun z => h z.symm
  unfold fbS fwL
  simp only [e0]
  by_cases h1 : S 0 a ≤ S 0 b
  · by_cases h2 : S 0 b ≤ S 0 a
    · simp only [if_pos h1, if_pos h2]
      (repeat' split) <;> simp
    · simp only [if_pos h1, if_neg h2]
      unfold flowS takeS
      simp only [u2_ap, e0, e1, e2]
      by_cases ja : j = a
      · subst ja
        simp [h]
      · by_cases jb : j = b
        · subst jb
          simp [ja, Int64.sub_eq_add_neg]
        · simp [ja, jb]
  · have h2 : S 0 b ≤ S 0 a := by rw [z_le] at h1 ⊢; omega
    simp only [if_neg h1, if_pos h2]
    unfold flowS takeS
    simp only [u2_ap, e0, e1, e2]
    by_cases ja : j = a
    · subst ja
      simp [h, Int64.sub_eq_add_neg]
    · by_cases jb : j = b
      · subst jb
        simp [ja]
      · simp [ja, jb]
theorem fb_1 {S T : St} {a b : Nat} {wd : Int32} (h : ¬ a = b) (j : Nat) : fbS T (zrL S) a b wd 1 j = T 1 j + (if j = a then fhL S b a wd else if j = b then fhL S a b wd else 0) := by
  have e0 : zrL S 0 = S 0 := rfl
  have e1 : zrL S 1 = deg S := rfl
  have e2 : zrL S 2 = S 2 := rfl
  have hb : ¬ b = a := fun z => h z.symm
  unfold fbS fhL
  simp only [e0]
  by_cases h1 : S 0 a ≤ S 0 b
  · by_cases h2 : S 0 b ≤ S 0 a
    · simp only [if_pos h1, if_pos h2]
      (repeat' split) <;> simp
    · simp only [if_pos h1, if_neg h2]
      unfold flowS takeS
      simp only [u2_ap, e0, e1, e2]
      by_cases ja : j = a
      · subst ja
        simp [h]
      · by_cases jb : j = b
        · subst jb
          simp [ja, Int64.sub_eq_add_neg]
        · simp [ja, jb]
  · have h2 : S 0 b ≤ S 0 a := by rw [z_le] at h1 ⊢; omega
    simp only [if_neg h1, if_pos h2]
    unfold flowS takeS
    simp only [u2_ap, e0, e1, e2]
    by_cases ja : j = a
    · subst ja
      simp [h, Int64.sub_eq_add_neg]
    · by_cases jb : j = b
      · subst jb
        simp [ja]
      · simp [ja, jb]
theorem fb_2 {S T : St} {a b : Nat} {wd : Int32} (h : ¬ a = b) (j : Nat) : fbS T (zrL S) a b wd 2 j = T 2 j + (if j = a then ftL S b a wd else if j = b then ftL S a b wd else 0) := by
  have e0 : zrL S 0 = S 0 := rfl
  have e1 : zrL S 1 = deg S := rfl
  have e2 : zrL S 2 = S 2 := rfl
  have hb : ¬ b = a := fun z => h z.symm
  unfold fbS ftL
  simp only [e0]
  by_cases h1 : S 0 a ≤ S 0 b
  · by_cases h2 : S 0 b ≤ S 0 a
    · simp only [if_pos h1, if_pos h2]
      (repeat' split) <;> simp
    · simp only [if_pos h1, if_neg h2]
      unfold flowS takeS
      simp only [u2_ap, e0, e1, e2]
      by_cases ja : j = a
      · subst ja
        simp [h]
      · by_cases jb : j = b
        · subst jb
          simp [ja, Int64.sub_eq_add_neg]
        · simp [ja, jb]
  · have h2 : S 0 b ≤ S 0 a := by rw [z_le] at h1 ⊢; omega
    simp only [if_neg h1, if_pos h2]
    unfold flowS takeS
    simp only [u2_ap, e0, e1, e2]
    by_cases ja : j = a
    · subst ja
      simp [h, Int64.sub_eq_add_neg]
    · by_cases jb : j = b
      · subst jb
        simp [ja]
      · simp [ja, jb]
/-- one side of a block -/
def sdL (f : St → Nat → Nat → Int32 → Int64) (C : Cf) (S : St) (b i : Nat) : Int64 := if bsd b i = -1 then 0 else f S (bsd b i).toNatClampNeg b (wdL C b i)

theorem nI_nn {o : Nat} (h : o < 2147483648) : 0 ≤ nI o := by
  rw [Int32.le_iff_toInt_le, nI_toInt h]
  have : (0 : Int32).toInt = 0 := rfl
  omega
theorem nI_cl {o : Nat} (h : o < 2147483648) : (nI o).toNatClampNeg = o := by
  show (nI o).toInt.toNat = o
  rw [nI_toInt h]
  exact Int.toNat_natCast o
theorem sd_n {f : St → Nat → Nat → Int32 → Int64} {C : Cf} {S : St} {b i : Nat} (h : bsd b i = -1) : sdL f C S b i = 0 := if_pos h
theorem sd_y {f : St → Nat → Nat → Int32 → Int64} {C : Cf} {S : St} {b i o : Nat} (h : ¬ bsd b i = -1) (ho : bsd b i = nI o) (h2 : o < 12) : sdL f C S b i = f S o b (wdL C b i) := by
  unfold sdL
  rw [if_neg h, ho, nI_cl (by omega)]
theorem ft_p {x a w : Int64} : (if ¬ x = 0 then a * x / w else 0) = a * x / w := by
  by_cases h : x = 0
  · rw [if_neg (fun z => z h), h, Int64.mul_zero, Int64.zero_div]
  · rw [if_pos h]
theorem ft_n {x a w : Int64} : (if ¬ x = 0 then -(a * x / w) else 0) = -(a * x / w) := by
  by_cases h : x = 0
  · rw [if_neg (fun z => z h), h, Int64.mul_zero, Int64.zero_div]
    rfl
  · rw [if_pos h]
/-- the three rows beside, one side of a block -/
def sdX (C : Cf) (S : St) (b i : Nat) (X : St) : St := u2 (u2 (u2 X 0 b (X 0 b + sdL fwL C S b i)) 1 b (X 1 b + sdL fhL C S b i)) 2 b (X 2 b + sdL ftL C S b i)
def gX (C : Cf) (S : St) (b : Nat) (X : St) : St := itr (sdX C S b) (u2 (u2 (u2 X 0 b (S 0 b)) 1 b (S 1 b)) 2 b (S 2 b)) 4
theorem ap_0 {x y : Int64} (h1 : x ≤ y) (h2 : y ≤ x) : x - y = 0 := by
  have : x = y := by rw [z_eq]; rw [z_le] at h1 h2; omega
  rw [this, Int64.sub_self]
theorem ap_n {x y : Int64} (hx : 0 ≤ x.toInt ∧ x.toInt ≤ 1099511627776) (hy : 0 ≤ y.toInt ∧ y.toInt ≤ 1099511627776) (h1 : x ≤ y) (h2 : ¬ y ≤ x) : x - y ≤ 0 ∧ ¬ x - y = 0 ∧ ¬ y = 0 := by
  have hz : (0 : Int64).toInt = 0 := rfl
  rw [z_le] at h1 h2
  have e : (x - y).toInt = x.toInt - y.toInt := z_sub (by omega) (by omega)
  refine ⟨?_, fun z => ?_, fun z => ?_⟩
  · rw [z_le, e]; omega
  · rw [z_eq, e] at z; omega
  · rw [z_eq] at z; omega
theorem ap_p {x y : Int64} (hx : 0 ≤ x.toInt ∧ x.toInt ≤ 1099511627776) (hy : 0 ≤ y.toInt ∧ y.toInt ≤ 1099511627776) (h1 : ¬ x ≤ y) : ¬ x - y ≤ 0 ∧ ¬ x - y = 0 ∧ ¬ x = 0 := by
  have hz : (0 : Int64).toInt = 0 := rfl
  rw [z_le] at h1
  have e : (x - y).toInt = x.toInt - y.toInt := z_sub (by omega) (by omega)
  refine ⟨fun z => ?_, fun z => ?_, fun z => ?_⟩
  · rw [z_le, e] at z; omega
  · rw [z_eq, e] at z; omega
  · rw [z_eq] at z; omega
theorem neg1_mul (x : Int64) : (-1 : Int64) * x = -x := by
  rw [show (-1 : Int64) = -(1 : Int64) from rfl, Int64.neg_mul, Int64.one_mul]
theorem f_A {S : St} {o b : Nat} {wd : Int32} (h1 : S 0 o ≤ S 0 b) (h2 : S 0 b ≤ S 0 o) : fwL S o b wd = 0 ∧ fhL S o b wd = 0 ∧ ftL S o b wd = 0 := by
  refine ⟨?_, ?_, ?_⟩
  · unfold fwL; rw [if_pos h1, if_pos h2]
  · unfold fhL; rw [if_pos h1, if_pos h2]
  · unfold ftL; rw [if_pos h1, if_pos h2]
theorem f_B {S : St} {o b : Nat} {wd : Int32} (h1 : S 0 o ≤ S 0 b) (h2 : ¬ S 0 b ≤ S 0 o) : fwL S o b wd = -((S 0 b - S 0 o) * wd.toInt64 / 1000) ∧ fhL S o b wd = -((S 0 b - S 0 o) * wd.toInt64 / 1000 * deg S b) ∧ ftL S o b wd = -(S 2 b * ((S 0 b - S 0 o) * wd.toInt64 / 1000) / S 0 b) := by
  refine ⟨?_, ?_, ?_⟩
  · unfold fwL; rw [if_pos h1, if_neg h2]
  · unfold fhL; rw [if_pos h1, if_neg h2]
  · unfold ftL; rw [if_pos h1, if_neg h2]
theorem f_C {S : St} {o b : Nat} {wd : Int32} (h1 : ¬ S 0 o ≤ S 0 b) : fwL S o b wd = (S 0 o - S 0 b) * wd.toInt64 / 1000 ∧ fhL S o b wd = (S 0 o - S 0 b) * wd.toInt64 / 1000 * deg S o ∧ ftL S o b wd = S 2 o * ((S 0 o - S 0 b) * wd.toInt64 / 1000) / S 0 o := by
  refine ⟨?_, ?_, ?_⟩
  · unfold fwL; rw [if_neg h1]
  · unfold fhL; rw [if_neg h1]
  · unfold ftL; rw [if_neg h1]
theorem lrQ_w4 (C : Cf) (N : Nat → Nat) (S : St) {x : Int32} {v : Int64} (h : v.toInt32 = x) : upd (lrQ C N S) 4 x = lrQ C N (u2 S 14 0 v) := by
  subst h
  funext i
  show (if i = 4 then v.toInt32 else lrQ C N S i) = _
  by_cases hi : i = 4
  · rw [if_pos hi, hi]
    show v.toInt32 = (u2 S 14 0 v 14 0).toInt32
    rw [u2_same]
  · rw [if_neg hi]
    unfold lrQ
    simp only [if_neg hi]
    rfl
/-- a quake behind the first twenty is not in the law's row -/
theorem lrK_add {S : St} {Qk : Nat → Int64} {b : Nat} {x : Int64} (h : 20 ≤ qN S) : lrK (addQ S Qk b x) = lrK Qk := by
  unfold addQ
  by_cases h6 : 60 ≤ qN S
  · rw [if_pos h6]
  · rw [if_neg h6, lrK_o _ (by omega), lrK_o _ (by omega), lrK_o _ (by omega)]
theorem wL_Q {y : Nat → Nat} {cI cJ : ClassId} {C : Cf} {N : Nat → Nat} {S : St} {Q Q' : Nat → Int64} (h : lrK Q' = lrK Q) : wL y cI cJ C N S Q = wL y cI cJ C N S Q' := by
  unfold wL
  rw [h]
theorem wL_A {y : Nat → Nat} {cI cJ : ClassId} {C : Cf} {N : Nat → Nat} {S T : St} {Q : Nat → Int64} (hc : ∀ c, ¬ c = 11 → S c = T c) (h : ∀ k n, n < 8 → S 11 (10 * k + n) = T 11 (10 * k + n)) : wL y cI cJ C N S Q = wL y cI cJ C N T Q := by
  have e0 := hc 0 (by decide)
  have e1 := hc 1 (by decide)
  have e2 := hc 2 (by decide)
  have e3 := hc 3 (by decide)
  have e7 := hc 7 (by decide)
  have e12 := hc 12 (by decide)
  have e13 := hc 13 (by decide)
  have e14 := hc 14 (by decide)
  have lrE : lrE C N S = lrE C N T := lrE_o (hc 4 (by decide)) (hc 5 (by decide)) (hc 6 (by decide)) (hc 8 (by decide))
  have lrG : lrG C S = lrG C T := lrG_o (hc 9 (by decide)) (hc 10 (by decide))
  have lrA : lrA S = lrA T := funext fun i => h (i / 8) (i % 8) (Nat.mod_lt _ (by decide))
  have lrQ : lrQ C N S = lrQ C N T := by
    unfold lrQ
    rw [e13, e14]
  unfold wL
  rw [e0, e1, e2, e3, e7, e12, lrE, lrG, lrA, lrQ]
/-! all cracks: both ways the same -/

theorem sd_0_0 (f : St → Nat → Nat → Int32 → Int64) (C : Cf) (S : St) : sdL f C S 0 0 = f S 1 0 (C 0 0) := (sd_y (o := 1) (by decide +kernel) (by decide +kernel) (by decide)).trans rfl
theorem sd_0_1 (f : St → Nat → Nat → Int32 → Int64) (C : Cf) (S : St) : sdL f C S 0 1 = 0 := sd_n (by decide +kernel)
theorem sd_0_2 (f : St → Nat → Nat → Int32 → Int64) (C : Cf) (S : St) : sdL f C S 0 2 = f S 4 0 (C 1 0) := (sd_y (o := 4) (by decide +kernel) (by decide +kernel) (by decide)).trans rfl
theorem sd_0_3 (f : St → Nat → Nat → Int32 → Int64) (C : Cf) (S : St) : sdL f C S 0 3 = 0 := sd_n (by decide +kernel)
theorem sd_1_0 (f : St → Nat → Nat → Int32 → Int64) (C : Cf) (S : St) : sdL f C S 1 0 = f S 2 1 (C 0 1) := (sd_y (o := 2) (by decide +kernel) (by decide +kernel) (by decide)).trans rfl
theorem sd_1_1 (f : St → Nat → Nat → Int32 → Int64) (C : Cf) (S : St) : sdL f C S 1 1 = f S 0 1 (C 0 0) := (sd_y (o := 0) (by decide +kernel) (by decide +kernel) (by decide)).trans rfl
theorem sd_1_2 (f : St → Nat → Nat → Int32 → Int64) (C : Cf) (S : St) : sdL f C S 1 2 = f S 5 1 (C 1 1) := (sd_y (o := 5) (by decide +kernel) (by decide +kernel) (by decide)).trans rfl
theorem sd_1_3 (f : St → Nat → Nat → Int32 → Int64) (C : Cf) (S : St) : sdL f C S 1 3 = 0 := sd_n (by decide +kernel)
theorem sd_2_0 (f : St → Nat → Nat → Int32 → Int64) (C : Cf) (S : St) : sdL f C S 2 0 = f S 3 2 (C 0 2) := (sd_y (o := 3) (by decide +kernel) (by decide +kernel) (by decide)).trans rfl
theorem sd_2_1 (f : St → Nat → Nat → Int32 → Int64) (C : Cf) (S : St) : sdL f C S 2 1 = f S 1 2 (C 0 1) := (sd_y (o := 1) (by decide +kernel) (by decide +kernel) (by decide)).trans rfl
theorem sd_2_2 (f : St → Nat → Nat → Int32 → Int64) (C : Cf) (S : St) : sdL f C S 2 2 = f S 6 2 (C 1 2) := (sd_y (o := 6) (by decide +kernel) (by decide +kernel) (by decide)).trans rfl
theorem sd_2_3 (f : St → Nat → Nat → Int32 → Int64) (C : Cf) (S : St) : sdL f C S 2 3 = 0 := sd_n (by decide +kernel)
theorem sd_3_0 (f : St → Nat → Nat → Int32 → Int64) (C : Cf) (S : St) : sdL f C S 3 0 = 0 := sd_n (by decide +kernel)
theorem sd_3_1 (f : St → Nat → Nat → Int32 → Int64) (C : Cf) (S : St) : sdL f C S 3 1 = f S 2 3 (C 0 2) := (sd_y (o := 2) (by decide +kernel) (by decide +kernel) (by decide)).trans rfl
theorem sd_3_2 (f : St → Nat → Nat → Int32 → Int64) (C : Cf) (S : St) : sdL f C S 3 2 = f S 7 3 (C 1 3) := (sd_y (o := 7) (by decide +kernel) (by decide +kernel) (by decide)).trans rfl
theorem sd_3_3 (f : St → Nat → Nat → Int32 → Int64) (C : Cf) (S : St) : sdL f C S 3 3 = 0 := sd_n (by decide +kernel)
theorem sd_4_0 (f : St → Nat → Nat → Int32 → Int64) (C : Cf) (S : St) : sdL f C S 4 0 = f S 5 4 (C 0 4) := (sd_y (o := 5) (by decide +kernel) (by decide +kernel) (by decide)).trans rfl
theorem sd_4_1 (f : St → Nat → Nat → Int32 → Int64) (C : Cf) (S : St) : sdL f C S 4 1 = 0 := sd_n (by decide +kernel)
theorem sd_4_2 (f : St → Nat → Nat → Int32 → Int64) (C : Cf) (S : St) : sdL f C S 4 2 = f S 8 4 (C 1 4) := (sd_y (o := 8) (by decide +kernel) (by decide +kernel) (by decide)).trans rfl
theorem sd_4_3 (f : St → Nat → Nat → Int32 → Int64) (C : Cf) (S : St) : sdL f C S 4 3 = f S 0 4 (C 1 0) := (sd_y (o := 0) (by decide +kernel) (by decide +kernel) (by decide)).trans rfl
theorem sd_5_0 (f : St → Nat → Nat → Int32 → Int64) (C : Cf) (S : St) : sdL f C S 5 0 = f S 6 5 (C 0 5) := (sd_y (o := 6) (by decide +kernel) (by decide +kernel) (by decide)).trans rfl
theorem sd_5_1 (f : St → Nat → Nat → Int32 → Int64) (C : Cf) (S : St) : sdL f C S 5 1 = f S 4 5 (C 0 4) := (sd_y (o := 4) (by decide +kernel) (by decide +kernel) (by decide)).trans rfl
theorem sd_5_2 (f : St → Nat → Nat → Int32 → Int64) (C : Cf) (S : St) : sdL f C S 5 2 = f S 9 5 (C 1 5) := (sd_y (o := 9) (by decide +kernel) (by decide +kernel) (by decide)).trans rfl
theorem sd_5_3 (f : St → Nat → Nat → Int32 → Int64) (C : Cf) (S : St) : sdL f C S 5 3 = f S 1 5 (C 1 1) := (sd_y (o := 1) (by decide +kernel) (by decide +kernel) (by decide)).trans rfl
theorem sd_6_0 (f : St → Nat → Nat → Int32 → Int64) (C : Cf) (S : St) : sdL f C S 6 0 = f S 7 6 (C 0 6) := (sd_y (o := 7) (by decide +kernel) (by decide +kernel) (by decide)).trans rfl
theorem sd_6_1 (f : St → Nat → Nat → Int32 → Int64) (C : Cf) (S : St) : sdL f C S 6 1 = f S 5 6 (C 0 5) := (sd_y (o := 5) (by decide +kernel) (by decide +kernel) (by decide)).trans rfl
theorem sd_6_2 (f : St → Nat → Nat → Int32 → Int64) (C : Cf) (S : St) : sdL f C S 6 2 = f S 10 6 (C 1 6) := (sd_y (o := 10) (by decide +kernel) (by decide +kernel) (by decide)).trans rfl
theorem sd_6_3 (f : St → Nat → Nat → Int32 → Int64) (C : Cf) (S : St) : sdL f C S 6 3 = f S 2 6 (C 1 2) := (sd_y (o := 2) (by decide +kernel) (by decide +kernel) (by decide)).trans rfl
theorem sd_7_0 (f : St → Nat → Nat → Int32 → Int64) (C : Cf) (S : St) : sdL f C S 7 0 = 0 := sd_n (by decide +kernel)
theorem sd_7_1 (f : St → Nat → Nat → Int32 → Int64) (C : Cf) (S : St) : sdL f C S 7 1 = f S 6 7 (C 0 6) := (sd_y (o := 6) (by decide +kernel) (by decide +kernel) (by decide)).trans rfl
theorem sd_7_2 (f : St → Nat → Nat → Int32 → Int64) (C : Cf) (S : St) : sdL f C S 7 2 = f S 11 7 (C 1 7) := (sd_y (o := 11) (by decide +kernel) (by decide +kernel) (by decide)).trans rfl
theorem sd_7_3 (f : St → Nat → Nat → Int32 → Int64) (C : Cf) (S : St) : sdL f C S 7 3 = f S 3 7 (C 1 3) := (sd_y (o := 3) (by decide +kernel) (by decide +kernel) (by decide)).trans rfl
theorem sd_8_0 (f : St → Nat → Nat → Int32 → Int64) (C : Cf) (S : St) : sdL f C S 8 0 = f S 9 8 (C 0 8) := (sd_y (o := 9) (by decide +kernel) (by decide +kernel) (by decide)).trans rfl
theorem sd_8_1 (f : St → Nat → Nat → Int32 → Int64) (C : Cf) (S : St) : sdL f C S 8 1 = 0 := sd_n (by decide +kernel)
theorem sd_8_2 (f : St → Nat → Nat → Int32 → Int64) (C : Cf) (S : St) : sdL f C S 8 2 = 0 := sd_n (by decide +kernel)
theorem sd_8_3 (f : St → Nat → Nat → Int32 → Int64) (C : Cf) (S : St) : sdL f C S 8 3 = f S 4 8 (C 1 4) := (sd_y (o := 4) (by decide +kernel) (by decide +kernel) (by decide)).trans rfl
theorem sd_9_0 (f : St → Nat → Nat → Int32 → Int64) (C : Cf) (S : St) : sdL f C S 9 0 = f S 10 9 (C 0 9) := (sd_y (o := 10) (by decide +kernel) (by decide +kernel) (by decide)).trans rfl
theorem sd_9_1 (f : St → Nat → Nat → Int32 → Int64) (C : Cf) (S : St) : sdL f C S 9 1 = f S 8 9 (C 0 8) := (sd_y (o := 8) (by decide +kernel) (by decide +kernel) (by decide)).trans rfl
theorem sd_9_2 (f : St → Nat → Nat → Int32 → Int64) (C : Cf) (S : St) : sdL f C S 9 2 = 0 := sd_n (by decide +kernel)
theorem sd_9_3 (f : St → Nat → Nat → Int32 → Int64) (C : Cf) (S : St) : sdL f C S 9 3 = f S 5 9 (C 1 5) := (sd_y (o := 5) (by decide +kernel) (by decide +kernel) (by decide)).trans rfl
theorem sd_10_0 (f : St → Nat → Nat → Int32 → Int64) (C : Cf) (S : St) : sdL f C S 10 0 = f S 11 10 (C 0 10) := (sd_y (o := 11) (by decide +kernel) (by decide +kernel) (by decide)).trans rfl
theorem sd_10_1 (f : St → Nat → Nat → Int32 → Int64) (C : Cf) (S : St) : sdL f C S 10 1 = f S 9 10 (C 0 9) := (sd_y (o := 9) (by decide +kernel) (by decide +kernel) (by decide)).trans rfl
theorem sd_10_2 (f : St → Nat → Nat → Int32 → Int64) (C : Cf) (S : St) : sdL f C S 10 2 = 0 := sd_n (by decide +kernel)
theorem sd_10_3 (f : St → Nat → Nat → Int32 → Int64) (C : Cf) (S : St) : sdL f C S 10 3 = f S 6 10 (C 1 6) := (sd_y (o := 6) (by decide +kernel) (by decide +kernel) (by decide)).trans rfl
theorem sd_11_0 (f : St → Nat → Nat → Int32 → Int64) (C : Cf) (S : St) : sdL f C S 11 0 = 0 := sd_n (by decide +kernel)
theorem sd_11_1 (f : St → Nat → Nat → Int32 → Int64) (C : Cf) (S : St) : sdL f C S 11 1 = f S 10 11 (C 0 10) := (sd_y (o := 10) (by decide +kernel) (by decide +kernel) (by decide)).trans rfl
theorem sd_11_2 (f : St → Nat → Nat → Int32 → Int64) (C : Cf) (S : St) : sdL f C S 11 2 = 0 := sd_n (by decide +kernel)
theorem sd_11_3 (f : St → Nat → Nat → Int32 → Int64) (C : Cf) (S : St) : sdL f C S 11 3 = f S 7 11 (C 1 7) := (sd_y (o := 7) (by decide +kernel) (by decide +kernel) (by decide)).trans rfl
theorem crs_0 (C : Cf) (Z T : St) : crS C Z 0 T = fbS (fbS T Z 0 1 (C 0 0)) Z 0 4 (C 1 0) := by
  unfold crS
  rw [if_neg (show ¬ 12 ≤ 0 + 4 by decide), if_neg (show ¬ 12 ≤ 0 + 1 by decide), if_neg (show ¬ nbr 0 (0 + 1) = false by decide)]
theorem crs_1 (C : Cf) (Z T : St) : crS C Z 1 T = fbS (fbS T Z 1 2 (C 0 1)) Z 1 5 (C 1 1) := by
  unfold crS
  rw [if_neg (show ¬ 12 ≤ 1 + 4 by decide), if_neg (show ¬ 12 ≤ 1 + 1 by decide), if_neg (show ¬ nbr 1 (1 + 1) = false by decide)]
theorem crs_2 (C : Cf) (Z T : St) : crS C Z 2 T = fbS (fbS T Z 2 3 (C 0 2)) Z 2 6 (C 1 2) := by
  unfold crS
  rw [if_neg (show ¬ 12 ≤ 2 + 4 by decide), if_neg (show ¬ 12 ≤ 2 + 1 by decide), if_neg (show ¬ nbr 2 (2 + 1) = false by decide)]
theorem crs_3 (C : Cf) (Z T : St) : crS C Z 3 T = fbS T Z 3 7 (C 1 3) := by
  unfold crS
  rw [if_neg (show ¬ 12 ≤ 3 + 4 by decide), if_neg (show ¬ 12 ≤ 3 + 1 by decide), if_pos (show nbr 3 (3 + 1) = false by decide)]
theorem crs_4 (C : Cf) (Z T : St) : crS C Z 4 T = fbS (fbS T Z 4 5 (C 0 4)) Z 4 8 (C 1 4) := by
  unfold crS
  rw [if_neg (show ¬ 12 ≤ 4 + 4 by decide), if_neg (show ¬ 12 ≤ 4 + 1 by decide), if_neg (show ¬ nbr 4 (4 + 1) = false by decide)]
theorem crs_5 (C : Cf) (Z T : St) : crS C Z 5 T = fbS (fbS T Z 5 6 (C 0 5)) Z 5 9 (C 1 5) := by
  unfold crS
  rw [if_neg (show ¬ 12 ≤ 5 + 4 by decide), if_neg (show ¬ 12 ≤ 5 + 1 by decide), if_neg (show ¬ nbr 5 (5 + 1) = false by decide)]
theorem crs_6 (C : Cf) (Z T : St) : crS C Z 6 T = fbS (fbS T Z 6 7 (C 0 6)) Z 6 10 (C 1 6) := by
  unfold crS
  rw [if_neg (show ¬ 12 ≤ 6 + 4 by decide), if_neg (show ¬ 12 ≤ 6 + 1 by decide), if_neg (show ¬ nbr 6 (6 + 1) = false by decide)]
theorem crs_7 (C : Cf) (Z T : St) : crS C Z 7 T = fbS T Z 7 11 (C 1 7) := by
  unfold crS
  rw [if_neg (show ¬ 12 ≤ 7 + 4 by decide), if_neg (show ¬ 12 ≤ 7 + 1 by decide), if_pos (show nbr 7 (7 + 1) = false by decide)]
theorem crs_8 (C : Cf) (Z T : St) : crS C Z 8 T = fbS T Z 8 9 (C 0 8) := by
  unfold crS
  rw [if_pos (show 12 ≤ 8 + 4 by decide), if_neg (show ¬ 12 ≤ 8 + 1 by decide), if_neg (show ¬ nbr 8 (8 + 1) = false by decide)]
theorem crs_9 (C : Cf) (Z T : St) : crS C Z 9 T = fbS T Z 9 10 (C 0 9) := by
  unfold crS
  rw [if_pos (show 12 ≤ 9 + 4 by decide), if_neg (show ¬ 12 ≤ 9 + 1 by decide), if_neg (show ¬ nbr 9 (9 + 1) = false by decide)]
theorem crs_10 (C : Cf) (Z T : St) : crS C Z 10 T = fbS T Z 10 11 (C 0 10) := by
  unfold crS
  rw [if_pos (show 12 ≤ 10 + 4 by decide), if_neg (show ¬ 12 ≤ 10 + 1 by decide), if_neg (show ¬ nbr 10 (10 + 1) = false by decide)]
theorem crs_11 (C : Cf) (Z T : St) : crS C Z 11 T = T := by
  unfold crS
  rw [if_pos (show 12 ≤ 11 + 4 by decide), if_pos (show 12 ≤ 11 + 1 by decide)]
theorem itr_12 {α : Type} (f : Nat → α → α) (a : α) : itr f a 12 = f 11 (f 10 (f 9 (f 8 (f 7 (f 6 (f 5 (f 4 (f 3 (f 2 (f 1 (f 0 a))))))))))) := rfl
theorem crk_u (C : Cf) (S : St) : crk C S = fbS (fbS (fbS (fbS (fbS (fbS (fbS (fbS (fbS (fbS (fbS (fbS (fbS (fbS (fbS (fbS (fbS S (zrL S) 0 1 (C 0 0)) (zrL S) 0 4 (C 1 0)) (zrL S) 1 2 (C 0 1)) (zrL S) 1 5 (C 1 1)) (zrL S) 2 3 (C 0 2)) (zrL S) 2 6 (C 1 2)) (zrL S) 3 7 (C 1 3)) (zrL S) 4 5 (C 0 4)) (zrL S) 4 8 (C 1 4)) (zrL S) 5 6 (C 0 5)) (zrL S) 5 9 (C 1 5)) (zrL S) 6 7 (C 0 6)) (zrL S) 6 10 (C 1 6)) (zrL S) 7 11 (C 1 7)) (zrL S) 8 9 (C 0 8)) (zrL S) 9 10 (C 0 9)) (zrL S) 10 11 (C 0 10) := by
  show itr (crS C (zrL S)) S 12 = _
  rw [itr_12, crs_0, crs_1, crs_2, crs_3, crs_4, crs_5, crs_6, crs_7, crs_8, crs_9, crs_10, crs_11]
theorem fq {f : Nat → Int64} {T0 : Int64} {x : Int64} {j a b : Nat} {u v : Int64} (h : x = T0 + (if j = a then u else if j = b then v else 0)) : x = T0 + (if j = a then u else if j = b then v else 0) := h
theorem ad_z (x : Int64) {j a b : Nat} {u v : Int64} (ha : ¬ j = a) (hb : ¬ j = b) : x + (if j = a then u else if j = b then v else 0) = x := by
  rw [if_neg ha, if_neg hb, Int64.add_zero]
theorem ad_a (x : Int64) {j b : Nat} {u v : Int64} : x + (if j = j then u else if j = b then v else 0) = x + u := by
  rw [if_pos rfl]
theorem ad_b (x : Int64) {j a : Nat} {u v : Int64} (ha : ¬ j = a) : x + (if j = a then u else if j = j then v else 0) = x + v := by
  rw [if_neg ha, if_pos rfl]

theorem crk_0_0 (C : Cf) (S : St) : crk C S 0 0 = S 0 0 + sdL fwL C S 0 0 + sdL fwL C S 0 1 + sdL fwL C S 0 2 + sdL fwL C S 0 3 := by
  rw [crk_u, fb_0 (show ¬ 10 = 11 by decide) 0, ad_z _ (by decide) (by decide), fb_0 (show ¬ 9 = 10 by decide) 0, ad_z _ (by decide) (by decide), fb_0 (show ¬ 8 = 9 by decide) 0, ad_z _ (by decide) (by decide), fb_0 (show ¬ 7 = 11 by decide) 0, ad_z _ (by decide) (by decide), fb_0 (show ¬ 6 = 10 by decide) 0, ad_z _ (by decide) (by decide), fb_0 (show ¬ 6 = 7 by decide) 0, ad_z _ (by decide) (by decide), fb_0 (show ¬ 5 = 9 by decide) 0, ad_z _ (by decide) (by decide), fb_0 (show ¬ 5 = 6 by decide) 0, ad_z _ (by decide) (by decide), fb_0 (show ¬ 4 = 8 by decide) 0, ad_z _ (by decide) (by decide), fb_0 (show ¬ 4 = 5 by decide) 0, ad_z _ (by decide) (by decide), fb_0 (show ¬ 3 = 7 by decide) 0, ad_z _ (by decide) (by decide), fb_0 (show ¬ 2 = 6 by decide) 0, ad_z _ (by decide) (by decide), fb_0 (show ¬ 2 = 3 by decide) 0, ad_z _ (by decide) (by decide), fb_0 (show ¬ 1 = 5 by decide) 0, ad_z _ (by decide) (by decide), fb_0 (show ¬ 1 = 2 by decide) 0, ad_z _ (by decide) (by decide), fb_0 (show ¬ 0 = 4 by decide) 0, ad_a, fb_0 (show ¬ 0 = 1 by decide) 0, ad_a]
  rw [sd_0_0, sd_0_1, sd_0_2, sd_0_3]
  grind
theorem crk_0_1 (C : Cf) (S : St) : crk C S 0 1 = S 0 1 + sdL fwL C S 1 0 + sdL fwL C S 1 1 + sdL fwL C S 1 2 + sdL fwL C S 1 3 := by
  rw [crk_u, fb_0 (show ¬ 10 = 11 by decide) 1, ad_z _ (by decide) (by decide), fb_0 (show ¬ 9 = 10 by decide) 1, ad_z _ (by decide) (by decide), fb_0 (show ¬ 8 = 9 by decide) 1, ad_z _ (by decide) (by decide), fb_0 (show ¬ 7 = 11 by decide) 1, ad_z _ (by decide) (by decide), fb_0 (show ¬ 6 = 10 by decide) 1, ad_z _ (by decide) (by decide), fb_0 (show ¬ 6 = 7 by decide) 1, ad_z _ (by decide) (by decide), fb_0 (show ¬ 5 = 9 by decide) 1, ad_z _ (by decide) (by decide), fb_0 (show ¬ 5 = 6 by decide) 1, ad_z _ (by decide) (by decide), fb_0 (show ¬ 4 = 8 by decide) 1, ad_z _ (by decide) (by decide), fb_0 (show ¬ 4 = 5 by decide) 1, ad_z _ (by decide) (by decide), fb_0 (show ¬ 3 = 7 by decide) 1, ad_z _ (by decide) (by decide), fb_0 (show ¬ 2 = 6 by decide) 1, ad_z _ (by decide) (by decide), fb_0 (show ¬ 2 = 3 by decide) 1, ad_z _ (by decide) (by decide), fb_0 (show ¬ 1 = 5 by decide) 1, ad_a, fb_0 (show ¬ 1 = 2 by decide) 1, ad_a, fb_0 (show ¬ 0 = 4 by decide) 1, ad_z _ (by decide) (by decide), fb_0 (show ¬ 0 = 1 by decide) 1, ad_b _ (by decide)]
  rw [sd_1_0, sd_1_1, sd_1_2, sd_1_3]
  grind
theorem crk_0_2 (C : Cf) (S : St) : crk C S 0 2 = S 0 2 + sdL fwL C S 2 0 + sdL fwL C S 2 1 + sdL fwL C S 2 2 + sdL fwL C S 2 3 := by
  rw [crk_u, fb_0 (show ¬ 10 = 11 by decide) 2, ad_z _ (by decide) (by decide), fb_0 (show ¬ 9 = 10 by decide) 2, ad_z _ (by decide) (by decide), fb_0 (show ¬ 8 = 9 by decide) 2, ad_z _ (by decide) (by decide), fb_0 (show ¬ 7 = 11 by decide) 2, ad_z _ (by decide) (by decide), fb_0 (show ¬ 6 = 10 by decide) 2, ad_z _ (by decide) (by decide), fb_0 (show ¬ 6 = 7 by decide) 2, ad_z _ (by decide) (by decide), fb_0 (show ¬ 5 = 9 by decide) 2, ad_z _ (by decide) (by decide), fb_0 (show ¬ 5 = 6 by decide) 2, ad_z _ (by decide) (by decide), fb_0 (show ¬ 4 = 8 by decide) 2, ad_z _ (by decide) (by decide), fb_0 (show ¬ 4 = 5 by decide) 2, ad_z _ (by decide) (by decide), fb_0 (show ¬ 3 = 7 by decide) 2, ad_z _ (by decide) (by decide), fb_0 (show ¬ 2 = 6 by decide) 2, ad_a, fb_0 (show ¬ 2 = 3 by decide) 2, ad_a, fb_0 (show ¬ 1 = 5 by decide) 2, ad_z _ (by decide) (by decide), fb_0 (show ¬ 1 = 2 by decide) 2, ad_b _ (by decide), fb_0 (show ¬ 0 = 4 by decide) 2, ad_z _ (by decide) (by decide), fb_0 (show ¬ 0 = 1 by decide) 2, ad_z _ (by decide) (by decide)]
  rw [sd_2_0, sd_2_1, sd_2_2, sd_2_3]
  grind
theorem crk_0_3 (C : Cf) (S : St) : crk C S 0 3 = S 0 3 + sdL fwL C S 3 0 + sdL fwL C S 3 1 + sdL fwL C S 3 2 + sdL fwL C S 3 3 := by
  rw [crk_u, fb_0 (show ¬ 10 = 11 by decide) 3, ad_z _ (by decide) (by decide), fb_0 (show ¬ 9 = 10 by decide) 3, ad_z _ (by decide) (by decide), fb_0 (show ¬ 8 = 9 by decide) 3, ad_z _ (by decide) (by decide), fb_0 (show ¬ 7 = 11 by decide) 3, ad_z _ (by decide) (by decide), fb_0 (show ¬ 6 = 10 by decide) 3, ad_z _ (by decide) (by decide), fb_0 (show ¬ 6 = 7 by decide) 3, ad_z _ (by decide) (by decide), fb_0 (show ¬ 5 = 9 by decide) 3, ad_z _ (by decide) (by decide), fb_0 (show ¬ 5 = 6 by decide) 3, ad_z _ (by decide) (by decide), fb_0 (show ¬ 4 = 8 by decide) 3, ad_z _ (by decide) (by decide), fb_0 (show ¬ 4 = 5 by decide) 3, ad_z _ (by decide) (by decide), fb_0 (show ¬ 3 = 7 by decide) 3, ad_a, fb_0 (show ¬ 2 = 6 by decide) 3, ad_z _ (by decide) (by decide), fb_0 (show ¬ 2 = 3 by decide) 3, ad_b _ (by decide), fb_0 (show ¬ 1 = 5 by decide) 3, ad_z _ (by decide) (by decide), fb_0 (show ¬ 1 = 2 by decide) 3, ad_z _ (by decide) (by decide), fb_0 (show ¬ 0 = 4 by decide) 3, ad_z _ (by decide) (by decide), fb_0 (show ¬ 0 = 1 by decide) 3, ad_z _ (by decide) (by decide)]
  rw [sd_3_0, sd_3_1, sd_3_2, sd_3_3]
  grind
theorem crk_0_4 (C : Cf) (S : St) : crk C S 0 4 = S 0 4 + sdL fwL C S 4 0 + sdL fwL C S 4 1 + sdL fwL C S 4 2 + sdL fwL C S 4 3 := by
  rw [crk_u, fb_0 (show ¬ 10 = 11 by decide) 4, ad_z _ (by decide) (by decide), fb_0 (show ¬ 9 = 10 by decide) 4, ad_z _ (by decide) (by decide), fb_0 (show ¬ 8 = 9 by decide) 4, ad_z _ (by decide) (by decide), fb_0 (show ¬ 7 = 11 by decide) 4, ad_z _ (by decide) (by decide), fb_0 (show ¬ 6 = 10 by decide) 4, ad_z _ (by decide) (by decide), fb_0 (show ¬ 6 = 7 by decide) 4, ad_z _ (by decide) (by decide), fb_0 (show ¬ 5 = 9 by decide) 4, ad_z _ (by decide) (by decide), fb_0 (show ¬ 5 = 6 by decide) 4, ad_z _ (by decide) (by decide), fb_0 (show ¬ 4 = 8 by decide) 4, ad_a, fb_0 (show ¬ 4 = 5 by decide) 4, ad_a, fb_0 (show ¬ 3 = 7 by decide) 4, ad_z _ (by decide) (by decide), fb_0 (show ¬ 2 = 6 by decide) 4, ad_z _ (by decide) (by decide), fb_0 (show ¬ 2 = 3 by decide) 4, ad_z _ (by decide) (by decide), fb_0 (show ¬ 1 = 5 by decide) 4, ad_z _ (by decide) (by decide), fb_0 (show ¬ 1 = 2 by decide) 4, ad_z _ (by decide) (by decide), fb_0 (show ¬ 0 = 4 by decide) 4, ad_b _ (by decide), fb_0 (show ¬ 0 = 1 by decide) 4, ad_z _ (by decide) (by decide)]
  rw [sd_4_0, sd_4_1, sd_4_2, sd_4_3]
  grind
theorem crk_0_5 (C : Cf) (S : St) : crk C S 0 5 = S 0 5 + sdL fwL C S 5 0 + sdL fwL C S 5 1 + sdL fwL C S 5 2 + sdL fwL C S 5 3 := by
  rw [crk_u, fb_0 (show ¬ 10 = 11 by decide) 5, ad_z _ (by decide) (by decide), fb_0 (show ¬ 9 = 10 by decide) 5, ad_z _ (by decide) (by decide), fb_0 (show ¬ 8 = 9 by decide) 5, ad_z _ (by decide) (by decide), fb_0 (show ¬ 7 = 11 by decide) 5, ad_z _ (by decide) (by decide), fb_0 (show ¬ 6 = 10 by decide) 5, ad_z _ (by decide) (by decide), fb_0 (show ¬ 6 = 7 by decide) 5, ad_z _ (by decide) (by decide), fb_0 (show ¬ 5 = 9 by decide) 5, ad_a, fb_0 (show ¬ 5 = 6 by decide) 5, ad_a, fb_0 (show ¬ 4 = 8 by decide) 5, ad_z _ (by decide) (by decide), fb_0 (show ¬ 4 = 5 by decide) 5, ad_b _ (by decide), fb_0 (show ¬ 3 = 7 by decide) 5, ad_z _ (by decide) (by decide), fb_0 (show ¬ 2 = 6 by decide) 5, ad_z _ (by decide) (by decide), fb_0 (show ¬ 2 = 3 by decide) 5, ad_z _ (by decide) (by decide), fb_0 (show ¬ 1 = 5 by decide) 5, ad_b _ (by decide), fb_0 (show ¬ 1 = 2 by decide) 5, ad_z _ (by decide) (by decide), fb_0 (show ¬ 0 = 4 by decide) 5, ad_z _ (by decide) (by decide), fb_0 (show ¬ 0 = 1 by decide) 5, ad_z _ (by decide) (by decide)]
  rw [sd_5_0, sd_5_1, sd_5_2, sd_5_3]
  grind
theorem crk_0_6 (C : Cf) (S : St) : crk C S 0 6 = S 0 6 + sdL fwL C S 6 0 + sdL fwL C S 6 1 + sdL fwL C S 6 2 + sdL fwL C S 6 3 := by
  rw [crk_u, fb_0 (show ¬ 10 = 11 by decide) 6, ad_z _ (by decide) (by decide), fb_0 (show ¬ 9 = 10 by decide) 6, ad_z _ (by decide) (by decide), fb_0 (show ¬ 8 = 9 by decide) 6, ad_z _ (by decide) (by decide), fb_0 (show ¬ 7 = 11 by decide) 6, ad_z _ (by decide) (by decide), fb_0 (show ¬ 6 = 10 by decide) 6, ad_a, fb_0 (show ¬ 6 = 7 by decide) 6, ad_a, fb_0 (show ¬ 5 = 9 by decide) 6, ad_z _ (by decide) (by decide), fb_0 (show ¬ 5 = 6 by decide) 6, ad_b _ (by decide), fb_0 (show ¬ 4 = 8 by decide) 6, ad_z _ (by decide) (by decide), fb_0 (show ¬ 4 = 5 by decide) 6, ad_z _ (by decide) (by decide), fb_0 (show ¬ 3 = 7 by decide) 6, ad_z _ (by decide) (by decide), fb_0 (show ¬ 2 = 6 by decide) 6, ad_b _ (by decide), fb_0 (show ¬ 2 = 3 by decide) 6, ad_z _ (by decide) (by decide), fb_0 (show ¬ 1 = 5 by decide) 6, ad_z _ (by decide) (by decide), fb_0 (show ¬ 1 = 2 by decide) 6, ad_z _ (by decide) (by decide), fb_0 (show ¬ 0 = 4 by decide) 6, ad_z _ (by decide) (by decide), fb_0 (show ¬ 0 = 1 by decide) 6, ad_z _ (by decide) (by decide)]
  rw [sd_6_0, sd_6_1, sd_6_2, sd_6_3]
  grind
theorem crk_0_7 (C : Cf) (S : St) : crk C S 0 7 = S 0 7 + sdL fwL C S 7 0 + sdL fwL C S 7 1 + sdL fwL C S 7 2 + sdL fwL C S 7 3 := by
  rw [crk_u, fb_0 (show ¬ 10 = 11 by decide) 7, ad_z _ (by decide) (by decide), fb_0 (show ¬ 9 = 10 by decide) 7, ad_z _ (by decide) (by decide), fb_0 (show ¬ 8 = 9 by decide) 7, ad_z _ (by decide) (by decide), fb_0 (show ¬ 7 = 11 by decide) 7, ad_a, fb_0 (show ¬ 6 = 10 by decide) 7, ad_z _ (by decide) (by decide), fb_0 (show ¬ 6 = 7 by decide) 7, ad_b _ (by decide), fb_0 (show ¬ 5 = 9 by decide) 7, ad_z _ (by decide) (by decide), fb_0 (show ¬ 5 = 6 by decide) 7, ad_z _ (by decide) (by decide), fb_0 (show ¬ 4 = 8 by decide) 7, ad_z _ (by decide) (by decide), fb_0 (show ¬ 4 = 5 by decide) 7, ad_z _ (by decide) (by decide), fb_0 (show ¬ 3 = 7 by decide) 7, ad_b _ (by decide), fb_0 (show ¬ 2 = 6 by decide) 7, ad_z _ (by decide) (by decide), fb_0 (show ¬ 2 = 3 by decide) 7, ad_z _ (by decide) (by decide), fb_0 (show ¬ 1 = 5 by decide) 7, ad_z _ (by decide) (by decide), fb_0 (show ¬ 1 = 2 by decide) 7, ad_z _ (by decide) (by decide), fb_0 (show ¬ 0 = 4 by decide) 7, ad_z _ (by decide) (by decide), fb_0 (show ¬ 0 = 1 by decide) 7, ad_z _ (by decide) (by decide)]
  rw [sd_7_0, sd_7_1, sd_7_2, sd_7_3]
  grind
theorem crk_0_8 (C : Cf) (S : St) : crk C S 0 8 = S 0 8 + sdL fwL C S 8 0 + sdL fwL C S 8 1 + sdL fwL C S 8 2 + sdL fwL C S 8 3 := by
  rw [crk_u, fb_0 (show ¬ 10 = 11 by decide) 8, ad_z _ (by decide) (by decide), fb_0 (show ¬ 9 = 10 by decide) 8, ad_z _ (by decide) (by decide), fb_0 (show ¬ 8 = 9 by decide) 8, ad_a, fb_0 (show ¬ 7 = 11 by decide) 8, ad_z _ (by decide) (by decide), fb_0 (show ¬ 6 = 10 by decide) 8, ad_z _ (by decide) (by decide), fb_0 (show ¬ 6 = 7 by decide) 8, ad_z _ (by decide) (by decide), fb_0 (show ¬ 5 = 9 by decide) 8, ad_z _ (by decide) (by decide), fb_0 (show ¬ 5 = 6 by decide) 8, ad_z _ (by decide) (by decide), fb_0 (show ¬ 4 = 8 by decide) 8, ad_b _ (by decide), fb_0 (show ¬ 4 = 5 by decide) 8, ad_z _ (by decide) (by decide), fb_0 (show ¬ 3 = 7 by decide) 8, ad_z _ (by decide) (by decide), fb_0 (show ¬ 2 = 6 by decide) 8, ad_z _ (by decide) (by decide), fb_0 (show ¬ 2 = 3 by decide) 8, ad_z _ (by decide) (by decide), fb_0 (show ¬ 1 = 5 by decide) 8, ad_z _ (by decide) (by decide), fb_0 (show ¬ 1 = 2 by decide) 8, ad_z _ (by decide) (by decide), fb_0 (show ¬ 0 = 4 by decide) 8, ad_z _ (by decide) (by decide), fb_0 (show ¬ 0 = 1 by decide) 8, ad_z _ (by decide) (by decide)]
  rw [sd_8_0, sd_8_1, sd_8_2, sd_8_3]
  grind
theorem crk_0_9 (C : Cf) (S : St) : crk C S 0 9 = S 0 9 + sdL fwL C S 9 0 + sdL fwL C S 9 1 + sdL fwL C S 9 2 + sdL fwL C S 9 3 := by
  rw [crk_u, fb_0 (show ¬ 10 = 11 by decide) 9, ad_z _ (by decide) (by decide), fb_0 (show ¬ 9 = 10 by decide) 9, ad_a, fb_0 (show ¬ 8 = 9 by decide) 9, ad_b _ (by decide), fb_0 (show ¬ 7 = 11 by decide) 9, ad_z _ (by decide) (by decide), fb_0 (show ¬ 6 = 10 by decide) 9, ad_z _ (by decide) (by decide), fb_0 (show ¬ 6 = 7 by decide) 9, ad_z _ (by decide) (by decide), fb_0 (show ¬ 5 = 9 by decide) 9, ad_b _ (by decide), fb_0 (show ¬ 5 = 6 by decide) 9, ad_z _ (by decide) (by decide), fb_0 (show ¬ 4 = 8 by decide) 9, ad_z _ (by decide) (by decide), fb_0 (show ¬ 4 = 5 by decide) 9, ad_z _ (by decide) (by decide), fb_0 (show ¬ 3 = 7 by decide) 9, ad_z _ (by decide) (by decide), fb_0 (show ¬ 2 = 6 by decide) 9, ad_z _ (by decide) (by decide), fb_0 (show ¬ 2 = 3 by decide) 9, ad_z _ (by decide) (by decide), fb_0 (show ¬ 1 = 5 by decide) 9, ad_z _ (by decide) (by decide), fb_0 (show ¬ 1 = 2 by decide) 9, ad_z _ (by decide) (by decide), fb_0 (show ¬ 0 = 4 by decide) 9, ad_z _ (by decide) (by decide), fb_0 (show ¬ 0 = 1 by decide) 9, ad_z _ (by decide) (by decide)]
  rw [sd_9_0, sd_9_1, sd_9_2, sd_9_3]
  grind
theorem crk_0_10 (C : Cf) (S : St) : crk C S 0 10 = S 0 10 + sdL fwL C S 10 0 + sdL fwL C S 10 1 + sdL fwL C S 10 2 + sdL fwL C S 10 3 := by
  rw [crk_u, fb_0 (show ¬ 10 = 11 by decide) 10, ad_a, fb_0 (show ¬ 9 = 10 by decide) 10, ad_b _ (by decide), fb_0 (show ¬ 8 = 9 by decide) 10, ad_z _ (by decide) (by decide), fb_0 (show ¬ 7 = 11 by decide) 10, ad_z _ (by decide) (by decide), fb_0 (show ¬ 6 = 10 by decide) 10, ad_b _ (by decide), fb_0 (show ¬ 6 = 7 by decide) 10, ad_z _ (by decide) (by decide), fb_0 (show ¬ 5 = 9 by decide) 10, ad_z _ (by decide) (by decide), fb_0 (show ¬ 5 = 6 by decide) 10, ad_z _ (by decide) (by decide), fb_0 (show ¬ 4 = 8 by decide) 10, ad_z _ (by decide) (by decide), fb_0 (show ¬ 4 = 5 by decide) 10, ad_z _ (by decide) (by decide), fb_0 (show ¬ 3 = 7 by decide) 10, ad_z _ (by decide) (by decide), fb_0 (show ¬ 2 = 6 by decide) 10, ad_z _ (by decide) (by decide), fb_0 (show ¬ 2 = 3 by decide) 10, ad_z _ (by decide) (by decide), fb_0 (show ¬ 1 = 5 by decide) 10, ad_z _ (by decide) (by decide), fb_0 (show ¬ 1 = 2 by decide) 10, ad_z _ (by decide) (by decide), fb_0 (show ¬ 0 = 4 by decide) 10, ad_z _ (by decide) (by decide), fb_0 (show ¬ 0 = 1 by decide) 10, ad_z _ (by decide) (by decide)]
  rw [sd_10_0, sd_10_1, sd_10_2, sd_10_3]
  grind
theorem crk_0_11 (C : Cf) (S : St) : crk C S 0 11 = S 0 11 + sdL fwL C S 11 0 + sdL fwL C S 11 1 + sdL fwL C S 11 2 + sdL fwL C S 11 3 := by
  rw [crk_u, fb_0 (show ¬ 10 = 11 by decide) 11, ad_b _ (by decide), fb_0 (show ¬ 9 = 10 by decide) 11, ad_z _ (by decide) (by decide), fb_0 (show ¬ 8 = 9 by decide) 11, ad_z _ (by decide) (by decide), fb_0 (show ¬ 7 = 11 by decide) 11, ad_b _ (by decide), fb_0 (show ¬ 6 = 10 by decide) 11, ad_z _ (by decide) (by decide), fb_0 (show ¬ 6 = 7 by decide) 11, ad_z _ (by decide) (by decide), fb_0 (show ¬ 5 = 9 by decide) 11, ad_z _ (by decide) (by decide), fb_0 (show ¬ 5 = 6 by decide) 11, ad_z _ (by decide) (by decide), fb_0 (show ¬ 4 = 8 by decide) 11, ad_z _ (by decide) (by decide), fb_0 (show ¬ 4 = 5 by decide) 11, ad_z _ (by decide) (by decide), fb_0 (show ¬ 3 = 7 by decide) 11, ad_z _ (by decide) (by decide), fb_0 (show ¬ 2 = 6 by decide) 11, ad_z _ (by decide) (by decide), fb_0 (show ¬ 2 = 3 by decide) 11, ad_z _ (by decide) (by decide), fb_0 (show ¬ 1 = 5 by decide) 11, ad_z _ (by decide) (by decide), fb_0 (show ¬ 1 = 2 by decide) 11, ad_z _ (by decide) (by decide), fb_0 (show ¬ 0 = 4 by decide) 11, ad_z _ (by decide) (by decide), fb_0 (show ¬ 0 = 1 by decide) 11, ad_z _ (by decide) (by decide)]
  rw [sd_11_0, sd_11_1, sd_11_2, sd_11_3]
  grind
theorem crk_1_0 (C : Cf) (S : St) : crk C S 1 0 = S 1 0 + sdL fhL C S 0 0 + sdL fhL C S 0 1 + sdL fhL C S 0 2 + sdL fhL C S 0 3 := by
  rw [crk_u, fb_1 (show ¬ 10 = 11 by decide) 0, ad_z _ (by decide) (by decide), fb_1 (show ¬ 9 = 10 by decide) 0, ad_z _ (by decide) (by decide), fb_1 (show ¬ 8 = 9 by decide) 0, ad_z _ (by decide) (by decide), fb_1 (show ¬ 7 = 11 by decide) 0, ad_z _ (by decide) (by decide), fb_1 (show ¬ 6 = 10 by decide) 0, ad_z _ (by decide) (by decide), fb_1 (show ¬ 6 = 7 by decide) 0, ad_z _ (by decide) (by decide), fb_1 (show ¬ 5 = 9 by decide) 0, ad_z _ (by decide) (by decide), fb_1 (show ¬ 5 = 6 by decide) 0, ad_z _ (by decide) (by decide), fb_1 (show ¬ 4 = 8 by decide) 0, ad_z _ (by decide) (by decide), fb_1 (show ¬ 4 = 5 by decide) 0, ad_z _ (by decide) (by decide), fb_1 (show ¬ 3 = 7 by decide) 0, ad_z _ (by decide) (by decide), fb_1 (show ¬ 2 = 6 by decide) 0, ad_z _ (by decide) (by decide), fb_1 (show ¬ 2 = 3 by decide) 0, ad_z _ (by decide) (by decide), fb_1 (show ¬ 1 = 5 by decide) 0, ad_z _ (by decide) (by decide), fb_1 (show ¬ 1 = 2 by decide) 0, ad_z _ (by decide) (by decide), fb_1 (show ¬ 0 = 4 by decide) 0, ad_a, fb_1 (show ¬ 0 = 1 by decide) 0, ad_a]
  rw [sd_0_0, sd_0_1, sd_0_2, sd_0_3]
  grind
theorem crk_1_1 (C : Cf) (S : St) : crk C S 1 1 = S 1 1 + sdL fhL C S 1 0 + sdL fhL C S 1 1 + sdL fhL C S 1 2 + sdL fhL C S 1 3 := by
  rw [crk_u, fb_1 (show ¬ 10 = 11 by decide) 1, ad_z _ (by decide) (by decide), fb_1 (show ¬ 9 = 10 by decide) 1, ad_z _ (by decide) (by decide), fb_1 (show ¬ 8 = 9 by decide) 1, ad_z _ (by decide) (by decide), fb_1 (show ¬ 7 = 11 by decide) 1, ad_z _ (by decide) (by decide), fb_1 (show ¬ 6 = 10 by decide) 1, ad_z _ (by decide) (by decide), fb_1 (show ¬ 6 = 7 by decide) 1, ad_z _ (by decide) (by decide), fb_1 (show ¬ 5 = 9 by decide) 1, ad_z _ (by decide) (by decide), fb_1 (show ¬ 5 = 6 by decide) 1, ad_z _ (by decide) (by decide), fb_1 (show ¬ 4 = 8 by decide) 1, ad_z _ (by decide) (by decide), fb_1 (show ¬ 4 = 5 by decide) 1, ad_z _ (by decide) (by decide), fb_1 (show ¬ 3 = 7 by decide) 1, ad_z _ (by decide) (by decide), fb_1 (show ¬ 2 = 6 by decide) 1, ad_z _ (by decide) (by decide), fb_1 (show ¬ 2 = 3 by decide) 1, ad_z _ (by decide) (by decide), fb_1 (show ¬ 1 = 5 by decide) 1, ad_a, fb_1 (show ¬ 1 = 2 by decide) 1, ad_a, fb_1 (show ¬ 0 = 4 by decide) 1, ad_z _ (by decide) (by decide), fb_1 (show ¬ 0 = 1 by decide) 1, ad_b _ (by decide)]
  rw [sd_1_0, sd_1_1, sd_1_2, sd_1_3]
  grind
theorem crk_1_2 (C : Cf) (S : St) : crk C S 1 2 = S 1 2 + sdL fhL C S 2 0 + sdL fhL C S 2 1 + sdL fhL C S 2 2 + sdL fhL C S 2 3 := by
  rw [crk_u, fb_1 (show ¬ 10 = 11 by decide) 2, ad_z _ (by decide) (by decide), fb_1 (show ¬ 9 = 10 by decide) 2, ad_z _ (by decide) (by decide), fb_1 (show ¬ 8 = 9 by decide) 2, ad_z _ (by decide) (by decide), fb_1 (show ¬ 7 = 11 by decide) 2, ad_z _ (by decide) (by decide), fb_1 (show ¬ 6 = 10 by decide) 2, ad_z _ (by decide) (by decide), fb_1 (show ¬ 6 = 7 by decide) 2, ad_z _ (by decide) (by decide), fb_1 (show ¬ 5 = 9 by decide) 2, ad_z _ (by decide) (by decide), fb_1 (show ¬ 5 = 6 by decide) 2, ad_z _ (by decide) (by decide), fb_1 (show ¬ 4 = 8 by decide) 2, ad_z _ (by decide) (by decide), fb_1 (show ¬ 4 = 5 by decide) 2, ad_z _ (by decide) (by decide), fb_1 (show ¬ 3 = 7 by decide) 2, ad_z _ (by decide) (by decide), fb_1 (show ¬ 2 = 6 by decide) 2, ad_a, fb_1 (show ¬ 2 = 3 by decide) 2, ad_a, fb_1 (show ¬ 1 = 5 by decide) 2, ad_z _ (by decide) (by decide), fb_1 (show ¬ 1 = 2 by decide) 2, ad_b _ (by decide), fb_1 (show ¬ 0 = 4 by decide) 2, ad_z _ (by decide) (by decide), fb_1 (show ¬ 0 = 1 by decide) 2, ad_z _ (by decide) (by decide)]
  rw [sd_2_0, sd_2_1, sd_2_2, sd_2_3]
  grind
theorem crk_1_3 (C : Cf) (S : St) : crk C S 1 3 = S 1 3 + sdL fhL C S 3 0 + sdL fhL C S 3 1 + sdL fhL C S 3 2 + sdL fhL C S 3 3 := by
  rw [crk_u, fb_1 (show ¬ 10 = 11 by decide) 3, ad_z _ (by decide) (by decide), fb_1 (show ¬ 9 = 10 by decide) 3, ad_z _ (by decide) (by decide), fb_1 (show ¬ 8 = 9 by decide) 3, ad_z _ (by decide) (by decide), fb_1 (show ¬ 7 = 11 by decide) 3, ad_z _ (by decide) (by decide), fb_1 (show ¬ 6 = 10 by decide) 3, ad_z _ (by decide) (by decide), fb_1 (show ¬ 6 = 7 by decide) 3, ad_z _ (by decide) (by decide), fb_1 (show ¬ 5 = 9 by decide) 3, ad_z _ (by decide) (by decide), fb_1 (show ¬ 5 = 6 by decide) 3, ad_z _ (by decide) (by decide), fb_1 (show ¬ 4 = 8 by decide) 3, ad_z _ (by decide) (by decide), fb_1 (show ¬ 4 = 5 by decide) 3, ad_z _ (by decide) (by decide), fb_1 (show ¬ 3 = 7 by decide) 3, ad_a, fb_1 (show ¬ 2 = 6 by decide) 3, ad_z _ (by decide) (by decide), fb_1 (show ¬ 2 = 3 by decide) 3, ad_b _ (by decide), fb_1 (show ¬ 1 = 5 by decide) 3, ad_z _ (by decide) (by decide), fb_1 (show ¬ 1 = 2 by decide) 3, ad_z _ (by decide) (by decide), fb_1 (show ¬ 0 = 4 by decide) 3, ad_z _ (by decide) (by decide), fb_1 (show ¬ 0 = 1 by decide) 3, ad_z _ (by decide) (by decide)]
  rw [sd_3_0, sd_3_1, sd_3_2, sd_3_3]
  grind
theorem crk_1_4 (C : Cf) (S : St) : crk C S 1 4 = S 1 4 + sdL fhL C S 4 0 + sdL fhL C S 4 1 + sdL fhL C S 4 2 + sdL fhL C S 4 3 := by
  rw [crk_u, fb_1 (show ¬ 10 = 11 by decide) 4, ad_z _ (by decide) (by decide), fb_1 (show ¬ 9 = 10 by decide) 4, ad_z _ (by decide) (by decide), fb_1 (show ¬ 8 = 9 by decide) 4, ad_z _ (by decide) (by decide), fb_1 (show ¬ 7 = 11 by decide) 4, ad_z _ (by decide) (by decide), fb_1 (show ¬ 6 = 10 by decide) 4, ad_z _ (by decide) (by decide), fb_1 (show ¬ 6 = 7 by decide) 4, ad_z _ (by decide) (by decide), fb_1 (show ¬ 5 = 9 by decide) 4, ad_z _ (by decide) (by decide), fb_1 (show ¬ 5 = 6 by decide) 4, ad_z _ (by decide) (by decide), fb_1 (show ¬ 4 = 8 by decide) 4, ad_a, fb_1 (show ¬ 4 = 5 by decide) 4, ad_a, fb_1 (show ¬ 3 = 7 by decide) 4, ad_z _ (by decide) (by decide), fb_1 (show ¬ 2 = 6 by decide) 4, ad_z _ (by decide) (by decide), fb_1 (show ¬ 2 = 3 by decide) 4, ad_z _ (by decide) (by decide), fb_1 (show ¬ 1 = 5 by decide) 4, ad_z _ (by decide) (by decide), fb_1 (show ¬ 1 = 2 by decide) 4, ad_z _ (by decide) (by decide), fb_1 (show ¬ 0 = 4 by decide) 4, ad_b _ (by decide), fb_1 (show ¬ 0 = 1 by decide) 4, ad_z _ (by decide) (by decide)]
  rw [sd_4_0, sd_4_1, sd_4_2, sd_4_3]
  grind
theorem crk_1_5 (C : Cf) (S : St) : crk C S 1 5 = S 1 5 + sdL fhL C S 5 0 + sdL fhL C S 5 1 + sdL fhL C S 5 2 + sdL fhL C S 5 3 := by
  rw [crk_u, fb_1 (show ¬ 10 = 11 by decide) 5, ad_z _ (by decide) (by decide), fb_1 (show ¬ 9 = 10 by decide) 5, ad_z _ (by decide) (by decide), fb_1 (show ¬ 8 = 9 by decide) 5, ad_z _ (by decide) (by decide), fb_1 (show ¬ 7 = 11 by decide) 5, ad_z _ (by decide) (by decide), fb_1 (show ¬ 6 = 10 by decide) 5, ad_z _ (by decide) (by decide), fb_1 (show ¬ 6 = 7 by decide) 5, ad_z _ (by decide) (by decide), fb_1 (show ¬ 5 = 9 by decide) 5, ad_a, fb_1 (show ¬ 5 = 6 by decide) 5, ad_a, fb_1 (show ¬ 4 = 8 by decide) 5, ad_z _ (by decide) (by decide), fb_1 (show ¬ 4 = 5 by decide) 5, ad_b _ (by decide), fb_1 (show ¬ 3 = 7 by decide) 5, ad_z _ (by decide) (by decide), fb_1 (show ¬ 2 = 6 by decide) 5, ad_z _ (by decide) (by decide), fb_1 (show ¬ 2 = 3 by decide) 5, ad_z _ (by decide) (by decide), fb_1 (show ¬ 1 = 5 by decide) 5, ad_b _ (by decide), fb_1 (show ¬ 1 = 2 by decide) 5, ad_z _ (by decide) (by decide), fb_1 (show ¬ 0 = 4 by decide) 5, ad_z _ (by decide) (by decide), fb_1 (show ¬ 0 = 1 by decide) 5, ad_z _ (by decide) (by decide)]
  rw [sd_5_0, sd_5_1, sd_5_2, sd_5_3]
  grind
theorem crk_1_6 (C : Cf) (S : St) : crk C S 1 6 = S 1 6 + sdL fhL C S 6 0 + sdL fhL C S 6 1 + sdL fhL C S 6 2 + sdL fhL C S 6 3 := by
  rw [crk_u, fb_1 (show ¬ 10 = 11 by decide) 6, ad_z _ (by decide) (by decide), fb_1 (show ¬ 9 = 10 by decide) 6, ad_z _ (by decide) (by decide), fb_1 (show ¬ 8 = 9 by decide) 6, ad_z _ (by decide) (by decide), fb_1 (show ¬ 7 = 11 by decide) 6, ad_z _ (by decide) (by decide), fb_1 (show ¬ 6 = 10 by decide) 6, ad_a, fb_1 (show ¬ 6 = 7 by decide) 6, ad_a, fb_1 (show ¬ 5 = 9 by decide) 6, ad_z _ (by decide) (by decide), fb_1 (show ¬ 5 = 6 by decide) 6, ad_b _ (by decide), fb_1 (show ¬ 4 = 8 by decide) 6, ad_z _ (by decide) (by decide), fb_1 (show ¬ 4 = 5 by decide) 6, ad_z _ (by decide) (by decide), fb_1 (show ¬ 3 = 7 by decide) 6, ad_z _ (by decide) (by decide), fb_1 (show ¬ 2 = 6 by decide) 6, ad_b _ (by decide), fb_1 (show ¬ 2 = 3 by decide) 6, ad_z _ (by decide) (by decide), fb_1 (show ¬ 1 = 5 by decide) 6, ad_z _ (by decide) (by decide), fb_1 (show ¬ 1 = 2 by decide) 6, ad_z _ (by decide) (by decide), fb_1 (show ¬ 0 = 4 by decide) 6, ad_z _ (by decide) (by decide), fb_1 (show ¬ 0 = 1 by decide) 6, ad_z _ (by decide) (by decide)]
  rw [sd_6_0, sd_6_1, sd_6_2, sd_6_3]
  grind
theorem crk_1_7 (C : Cf) (S : St) : crk C S 1 7 = S 1 7 + sdL fhL C S 7 0 + sdL fhL C S 7 1 + sdL fhL C S 7 2 + sdL fhL C S 7 3 := by
  rw [crk_u, fb_1 (show ¬ 10 = 11 by decide) 7, ad_z _ (by decide) (by decide), fb_1 (show ¬ 9 = 10 by decide) 7, ad_z _ (by decide) (by decide), fb_1 (show ¬ 8 = 9 by decide) 7, ad_z _ (by decide) (by decide), fb_1 (show ¬ 7 = 11 by decide) 7, ad_a, fb_1 (show ¬ 6 = 10 by decide) 7, ad_z _ (by decide) (by decide), fb_1 (show ¬ 6 = 7 by decide) 7, ad_b _ (by decide), fb_1 (show ¬ 5 = 9 by decide) 7, ad_z _ (by decide) (by decide), fb_1 (show ¬ 5 = 6 by decide) 7, ad_z _ (by decide) (by decide), fb_1 (show ¬ 4 = 8 by decide) 7, ad_z _ (by decide) (by decide), fb_1 (show ¬ 4 = 5 by decide) 7, ad_z _ (by decide) (by decide), fb_1 (show ¬ 3 = 7 by decide) 7, ad_b _ (by decide), fb_1 (show ¬ 2 = 6 by decide) 7, ad_z _ (by decide) (by decide), fb_1 (show ¬ 2 = 3 by decide) 7, ad_z _ (by decide) (by decide), fb_1 (show ¬ 1 = 5 by decide) 7, ad_z _ (by decide) (by decide), fb_1 (show ¬ 1 = 2 by decide) 7, ad_z _ (by decide) (by decide), fb_1 (show ¬ 0 = 4 by decide) 7, ad_z _ (by decide) (by decide), fb_1 (show ¬ 0 = 1 by decide) 7, ad_z _ (by decide) (by decide)]
  rw [sd_7_0, sd_7_1, sd_7_2, sd_7_3]
  grind
theorem crk_1_8 (C : Cf) (S : St) : crk C S 1 8 = S 1 8 + sdL fhL C S 8 0 + sdL fhL C S 8 1 + sdL fhL C S 8 2 + sdL fhL C S 8 3 := by
  rw [crk_u, fb_1 (show ¬ 10 = 11 by decide) 8, ad_z _ (by decide) (by decide), fb_1 (show ¬ 9 = 10 by decide) 8, ad_z _ (by decide) (by decide), fb_1 (show ¬ 8 = 9 by decide) 8, ad_a, fb_1 (show ¬ 7 = 11 by decide) 8, ad_z _ (by decide) (by decide), fb_1 (show ¬ 6 = 10 by decide) 8, ad_z _ (by decide) (by decide), fb_1 (show ¬ 6 = 7 by decide) 8, ad_z _ (by decide) (by decide), fb_1 (show ¬ 5 = 9 by decide) 8, ad_z _ (by decide) (by decide), fb_1 (show ¬ 5 = 6 by decide) 8, ad_z _ (by decide) (by decide), fb_1 (show ¬ 4 = 8 by decide) 8, ad_b _ (by decide), fb_1 (show ¬ 4 = 5 by decide) 8, ad_z _ (by decide) (by decide), fb_1 (show ¬ 3 = 7 by decide) 8, ad_z _ (by decide) (by decide), fb_1 (show ¬ 2 = 6 by decide) 8, ad_z _ (by decide) (by decide), fb_1 (show ¬ 2 = 3 by decide) 8, ad_z _ (by decide) (by decide), fb_1 (show ¬ 1 = 5 by decide) 8, ad_z _ (by decide) (by decide), fb_1 (show ¬ 1 = 2 by decide) 8, ad_z _ (by decide) (by decide), fb_1 (show ¬ 0 = 4 by decide) 8, ad_z _ (by decide) (by decide), fb_1 (show ¬ 0 = 1 by decide) 8, ad_z _ (by decide) (by decide)]
  rw [sd_8_0, sd_8_1, sd_8_2, sd_8_3]
  grind
theorem crk_1_9 (C : Cf) (S : St) : crk C S 1 9 = S 1 9 + sdL fhL C S 9 0 + sdL fhL C S 9 1 + sdL fhL C S 9 2 + sdL fhL C S 9 3 := by
  rw [crk_u, fb_1 (show ¬ 10 = 11 by decide) 9, ad_z _ (by decide) (by decide), fb_1 (show ¬ 9 = 10 by decide) 9, ad_a, fb_1 (show ¬ 8 = 9 by decide) 9, ad_b _ (by decide), fb_1 (show ¬ 7 = 11 by decide) 9, ad_z _ (by decide) (by decide), fb_1 (show ¬ 6 = 10 by decide) 9, ad_z _ (by decide) (by decide), fb_1 (show ¬ 6 = 7 by decide) 9, ad_z _ (by decide) (by decide), fb_1 (show ¬ 5 = 9 by decide) 9, ad_b _ (by decide), fb_1 (show ¬ 5 = 6 by decide) 9, ad_z _ (by decide) (by decide), fb_1 (show ¬ 4 = 8 by decide) 9, ad_z _ (by decide) (by decide), fb_1 (show ¬ 4 = 5 by decide) 9, ad_z _ (by decide) (by decide), fb_1 (show ¬ 3 = 7 by decide) 9, ad_z _ (by decide) (by decide), fb_1 (show ¬ 2 = 6 by decide) 9, ad_z _ (by decide) (by decide), fb_1 (show ¬ 2 = 3 by decide) 9, ad_z _ (by decide) (by decide), fb_1 (show ¬ 1 = 5 by decide) 9, ad_z _ (by decide) (by decide), fb_1 (show ¬ 1 = 2 by decide) 9, ad_z _ (by decide) (by decide), fb_1 (show ¬ 0 = 4 by decide) 9, ad_z _ (by decide) (by decide), fb_1 (show ¬ 0 = 1 by decide) 9, ad_z _ (by decide) (by decide)]
  rw [sd_9_0, sd_9_1, sd_9_2, sd_9_3]
  grind
theorem crk_1_10 (C : Cf) (S : St) : crk C S 1 10 = S 1 10 + sdL fhL C S 10 0 + sdL fhL C S 10 1 + sdL fhL C S 10 2 + sdL fhL C S 10 3 := by
  rw [crk_u, fb_1 (show ¬ 10 = 11 by decide) 10, ad_a, fb_1 (show ¬ 9 = 10 by decide) 10, ad_b _ (by decide), fb_1 (show ¬ 8 = 9 by decide) 10, ad_z _ (by decide) (by decide), fb_1 (show ¬ 7 = 11 by decide) 10, ad_z _ (by decide) (by decide), fb_1 (show ¬ 6 = 10 by decide) 10, ad_b _ (by decide), fb_1 (show ¬ 6 = 7 by decide) 10, ad_z _ (by decide) (by decide), fb_1 (show ¬ 5 = 9 by decide) 10, ad_z _ (by decide) (by decide), fb_1 (show ¬ 5 = 6 by decide) 10, ad_z _ (by decide) (by decide), fb_1 (show ¬ 4 = 8 by decide) 10, ad_z _ (by decide) (by decide), fb_1 (show ¬ 4 = 5 by decide) 10, ad_z _ (by decide) (by decide), fb_1 (show ¬ 3 = 7 by decide) 10, ad_z _ (by decide) (by decide), fb_1 (show ¬ 2 = 6 by decide) 10, ad_z _ (by decide) (by decide), fb_1 (show ¬ 2 = 3 by decide) 10, ad_z _ (by decide) (by decide), fb_1 (show ¬ 1 = 5 by decide) 10, ad_z _ (by decide) (by decide), fb_1 (show ¬ 1 = 2 by decide) 10, ad_z _ (by decide) (by decide), fb_1 (show ¬ 0 = 4 by decide) 10, ad_z _ (by decide) (by decide), fb_1 (show ¬ 0 = 1 by decide) 10, ad_z _ (by decide) (by decide)]
  rw [sd_10_0, sd_10_1, sd_10_2, sd_10_3]
  grind
theorem crk_1_11 (C : Cf) (S : St) : crk C S 1 11 = S 1 11 + sdL fhL C S 11 0 + sdL fhL C S 11 1 + sdL fhL C S 11 2 + sdL fhL C S 11 3 := by
  rw [crk_u, fb_1 (show ¬ 10 = 11 by decide) 11, ad_b _ (by decide), fb_1 (show ¬ 9 = 10 by decide) 11, ad_z _ (by decide) (by decide), fb_1 (show ¬ 8 = 9 by decide) 11, ad_z _ (by decide) (by decide), fb_1 (show ¬ 7 = 11 by decide) 11, ad_b _ (by decide), fb_1 (show ¬ 6 = 10 by decide) 11, ad_z _ (by decide) (by decide), fb_1 (show ¬ 6 = 7 by decide) 11, ad_z _ (by decide) (by decide), fb_1 (show ¬ 5 = 9 by decide) 11, ad_z _ (by decide) (by decide), fb_1 (show ¬ 5 = 6 by decide) 11, ad_z _ (by decide) (by decide), fb_1 (show ¬ 4 = 8 by decide) 11, ad_z _ (by decide) (by decide), fb_1 (show ¬ 4 = 5 by decide) 11, ad_z _ (by decide) (by decide), fb_1 (show ¬ 3 = 7 by decide) 11, ad_z _ (by decide) (by decide), fb_1 (show ¬ 2 = 6 by decide) 11, ad_z _ (by decide) (by decide), fb_1 (show ¬ 2 = 3 by decide) 11, ad_z _ (by decide) (by decide), fb_1 (show ¬ 1 = 5 by decide) 11, ad_z _ (by decide) (by decide), fb_1 (show ¬ 1 = 2 by decide) 11, ad_z _ (by decide) (by decide), fb_1 (show ¬ 0 = 4 by decide) 11, ad_z _ (by decide) (by decide), fb_1 (show ¬ 0 = 1 by decide) 11, ad_z _ (by decide) (by decide)]
  rw [sd_11_0, sd_11_1, sd_11_2, sd_11_3]
  grind
theorem crk_2_0 (C : Cf) (S : St) : crk C S 2 0 = S 2 0 + sdL ftL C S 0 0 + sdL ftL C S 0 1 + sdL ftL C S 0 2 + sdL ftL C S 0 3 := by
  rw [crk_u, fb_2 (show ¬ 10 = 11 by decide) 0, ad_z _ (by decide) (by decide), fb_2 (show ¬ 9 = 10 by decide) 0, ad_z _ (by decide) (by decide), fb_2 (show ¬ 8 = 9 by decide) 0, ad_z _ (by decide) (by decide), fb_2 (show ¬ 7 = 11 by decide) 0, ad_z _ (by decide) (by decide), fb_2 (show ¬ 6 = 10 by decide) 0, ad_z _ (by decide) (by decide), fb_2 (show ¬ 6 = 7 by decide) 0, ad_z _ (by decide) (by decide), fb_2 (show ¬ 5 = 9 by decide) 0, ad_z _ (by decide) (by decide), fb_2 (show ¬ 5 = 6 by decide) 0, ad_z _ (by decide) (by decide), fb_2 (show ¬ 4 = 8 by decide) 0, ad_z _ (by decide) (by decide), fb_2 (show ¬ 4 = 5 by decide) 0, ad_z _ (by decide) (by decide), fb_2 (show ¬ 3 = 7 by decide) 0, ad_z _ (by decide) (by decide), fb_2 (show ¬ 2 = 6 by decide) 0, ad_z _ (by decide) (by decide), fb_2 (show ¬ 2 = 3 by decide) 0, ad_z _ (by decide) (by decide), fb_2 (show ¬ 1 = 5 by decide) 0, ad_z _ (by decide) (by decide), fb_2 (show ¬ 1 = 2 by decide) 0, ad_z _ (by decide) (by decide), fb_2 (show ¬ 0 = 4 by decide) 0, ad_a, fb_2 (show ¬ 0 = 1 by decide) 0, ad_a]
  rw [sd_0_0, sd_0_1, sd_0_2, sd_0_3]
  grind
theorem crk_2_1 (C : Cf) (S : St) : crk C S 2 1 = S 2 1 + sdL ftL C S 1 0 + sdL ftL C S 1 1 + sdL ftL C S 1 2 + sdL ftL C S 1 3 := by
  rw [crk_u, fb_2 (show ¬ 10 = 11 by decide) 1, ad_z _ (by decide) (by decide), fb_2 (show ¬ 9 = 10 by decide) 1, ad_z _ (by decide) (by decide), fb_2 (show ¬ 8 = 9 by decide) 1, ad_z _ (by decide) (by decide), fb_2 (show ¬ 7 = 11 by decide) 1, ad_z _ (by decide) (by decide), fb_2 (show ¬ 6 = 10 by decide) 1, ad_z _ (by decide) (by decide), fb_2 (show ¬ 6 = 7 by decide) 1, ad_z _ (by decide) (by decide), fb_2 (show ¬ 5 = 9 by decide) 1, ad_z _ (by decide) (by decide), fb_2 (show ¬ 5 = 6 by decide) 1, ad_z _ (by decide) (by decide), fb_2 (show ¬ 4 = 8 by decide) 1, ad_z _ (by decide) (by decide), fb_2 (show ¬ 4 = 5 by decide) 1, ad_z _ (by decide) (by decide), fb_2 (show ¬ 3 = 7 by decide) 1, ad_z _ (by decide) (by decide), fb_2 (show ¬ 2 = 6 by decide) 1, ad_z _ (by decide) (by decide), fb_2 (show ¬ 2 = 3 by decide) 1, ad_z _ (by decide) (by decide), fb_2 (show ¬ 1 = 5 by decide) 1, ad_a, fb_2 (show ¬ 1 = 2 by decide) 1, ad_a, fb_2 (show ¬ 0 = 4 by decide) 1, ad_z _ (by decide) (by decide), fb_2 (show ¬ 0 = 1 by decide) 1, ad_b _ (by decide)]
  rw [sd_1_0, sd_1_1, sd_1_2, sd_1_3]
  grind
theorem crk_2_2 (C : Cf) (S : St) : crk C S 2 2 = S 2 2 + sdL ftL C S 2 0 + sdL ftL C S 2 1 + sdL ftL C S 2 2 + sdL ftL C S 2 3 := by
  rw [crk_u, fb_2 (show ¬ 10 = 11 by decide) 2, ad_z _ (by decide) (by decide), fb_2 (show ¬ 9 = 10 by decide) 2, ad_z _ (by decide) (by decide), fb_2 (show ¬ 8 = 9 by decide) 2, ad_z _ (by decide) (by decide), fb_2 (show ¬ 7 = 11 by decide) 2, ad_z _ (by decide) (by decide), fb_2 (show ¬ 6 = 10 by decide) 2, ad_z _ (by decide) (by decide), fb_2 (show ¬ 6 = 7 by decide) 2, ad_z _ (by decide) (by decide), fb_2 (show ¬ 5 = 9 by decide) 2, ad_z _ (by decide) (by decide), fb_2 (show ¬ 5 = 6 by decide) 2, ad_z _ (by decide) (by decide), fb_2 (show ¬ 4 = 8 by decide) 2, ad_z _ (by decide) (by decide), fb_2 (show ¬ 4 = 5 by decide) 2, ad_z _ (by decide) (by decide), fb_2 (show ¬ 3 = 7 by decide) 2, ad_z _ (by decide) (by decide), fb_2 (show ¬ 2 = 6 by decide) 2, ad_a, fb_2 (show ¬ 2 = 3 by decide) 2, ad_a, fb_2 (show ¬ 1 = 5 by decide) 2, ad_z _ (by decide) (by decide), fb_2 (show ¬ 1 = 2 by decide) 2, ad_b _ (by decide), fb_2 (show ¬ 0 = 4 by decide) 2, ad_z _ (by decide) (by decide), fb_2 (show ¬ 0 = 1 by decide) 2, ad_z _ (by decide) (by decide)]
  rw [sd_2_0, sd_2_1, sd_2_2, sd_2_3]
  grind
theorem crk_2_3 (C : Cf) (S : St) : crk C S 2 3 = S 2 3 + sdL ftL C S 3 0 + sdL ftL C S 3 1 + sdL ftL C S 3 2 + sdL ftL C S 3 3 := by
  rw [crk_u, fb_2 (show ¬ 10 = 11 by decide) 3, ad_z _ (by decide) (by decide), fb_2 (show ¬ 9 = 10 by decide) 3, ad_z _ (by decide) (by decide), fb_2 (show ¬ 8 = 9 by decide) 3, ad_z _ (by decide) (by decide), fb_2 (show ¬ 7 = 11 by decide) 3, ad_z _ (by decide) (by decide), fb_2 (show ¬ 6 = 10 by decide) 3, ad_z _ (by decide) (by decide), fb_2 (show ¬ 6 = 7 by decide) 3, ad_z _ (by decide) (by decide), fb_2 (show ¬ 5 = 9 by decide) 3, ad_z _ (by decide) (by decide), fb_2 (show ¬ 5 = 6 by decide) 3, ad_z _ (by decide) (by decide), fb_2 (show ¬ 4 = 8 by decide) 3, ad_z _ (by decide) (by decide), fb_2 (show ¬ 4 = 5 by decide) 3, ad_z _ (by decide) (by decide), fb_2 (show ¬ 3 = 7 by decide) 3, ad_a, fb_2 (show ¬ 2 = 6 by decide) 3, ad_z _ (by decide) (by decide), fb_2 (show ¬ 2 = 3 by decide) 3, ad_b _ (by decide), fb_2 (show ¬ 1 = 5 by decide) 3, ad_z _ (by decide) (by decide), fb_2 (show ¬ 1 = 2 by decide) 3, ad_z _ (by decide) (by decide), fb_2 (show ¬ 0 = 4 by decide) 3, ad_z _ (by decide) (by decide), fb_2 (show ¬ 0 = 1 by decide) 3, ad_z _ (by decide) (by decide)]
  rw [sd_3_0, sd_3_1, sd_3_2, sd_3_3]
  grind
theorem crk_2_4 (C : Cf) (S : St) : crk C S 2 4 = S 2 4 + sdL ftL C S 4 0 + sdL ftL C S 4 1 + sdL ftL C S 4 2 + sdL ftL C S 4 3 := by
  rw [crk_u, fb_2 (show ¬ 10 = 11 by decide) 4, ad_z _ (by decide) (by decide), fb_2 (show ¬ 9 = 10 by decide) 4, ad_z _ (by decide) (by decide), fb_2 (show ¬ 8 = 9 by decide) 4, ad_z _ (by decide) (by decide), fb_2 (show ¬ 7 = 11 by decide) 4, ad_z _ (by decide) (by decide), fb_2 (show ¬ 6 = 10 by decide) 4, ad_z _ (by decide) (by decide), fb_2 (show ¬ 6 = 7 by decide) 4, ad_z _ (by decide) (by decide), fb_2 (show ¬ 5 = 9 by decide) 4, ad_z _ (by decide) (by decide), fb_2 (show ¬ 5 = 6 by decide) 4, ad_z _ (by decide) (by decide), fb_2 (show ¬ 4 = 8 by decide) 4, ad_a, fb_2 (show ¬ 4 = 5 by decide) 4, ad_a, fb_2 (show ¬ 3 = 7 by decide) 4, ad_z _ (by decide) (by decide), fb_2 (show ¬ 2 = 6 by decide) 4, ad_z _ (by decide) (by decide), fb_2 (show ¬ 2 = 3 by decide) 4, ad_z _ (by decide) (by decide), fb_2 (show ¬ 1 = 5 by decide) 4, ad_z _ (by decide) (by decide), fb_2 (show ¬ 1 = 2 by decide) 4, ad_z _ (by decide) (by decide), fb_2 (show ¬ 0 = 4 by decide) 4, ad_b _ (by decide), fb_2 (show ¬ 0 = 1 by decide) 4, ad_z _ (by decide) (by decide)]
  rw [sd_4_0, sd_4_1, sd_4_2, sd_4_3]
  grind
theorem crk_2_5 (C : Cf) (S : St) : crk C S 2 5 = S 2 5 + sdL ftL C S 5 0 + sdL ftL C S 5 1 + sdL ftL C S 5 2 + sdL ftL C S 5 3 := by
  rw [crk_u, fb_2 (show ¬ 10 = 11 by decide) 5, ad_z _ (by decide) (by decide), fb_2 (show ¬ 9 = 10 by decide) 5, ad_z _ (by decide) (by decide), fb_2 (show ¬ 8 = 9 by decide) 5, ad_z _ (by decide) (by decide), fb_2 (show ¬ 7 = 11 by decide) 5, ad_z _ (by decide) (by decide), fb_2 (show ¬ 6 = 10 by decide) 5, ad_z _ (by decide) (by decide), fb_2 (show ¬ 6 = 7 by decide) 5, ad_z _ (by decide) (by decide), fb_2 (show ¬ 5 = 9 by decide) 5, ad_a, fb_2 (show ¬ 5 = 6 by decide) 5, ad_a, fb_2 (show ¬ 4 = 8 by decide) 5, ad_z _ (by decide) (by decide), fb_2 (show ¬ 4 = 5 by decide) 5, ad_b _ (by decide), fb_2 (show ¬ 3 = 7 by decide) 5, ad_z _ (by decide) (by decide), fb_2 (show ¬ 2 = 6 by decide) 5, ad_z _ (by decide) (by decide), fb_2 (show ¬ 2 = 3 by decide) 5, ad_z _ (by decide) (by decide), fb_2 (show ¬ 1 = 5 by decide) 5, ad_b _ (by decide), fb_2 (show ¬ 1 = 2 by decide) 5, ad_z _ (by decide) (by decide), fb_2 (show ¬ 0 = 4 by decide) 5, ad_z _ (by decide) (by decide), fb_2 (show ¬ 0 = 1 by decide) 5, ad_z _ (by decide) (by decide)]
  rw [sd_5_0, sd_5_1, sd_5_2, sd_5_3]
  grind
theorem crk_2_6 (C : Cf) (S : St) : crk C S 2 6 = S 2 6 + sdL ftL C S 6 0 + sdL ftL C S 6 1 + sdL ftL C S 6 2 + sdL ftL C S 6 3 := by
  rw [crk_u, fb_2 (show ¬ 10 = 11 by decide) 6, ad_z _ (by decide) (by decide), fb_2 (show ¬ 9 = 10 by decide) 6, ad_z _ (by decide) (by decide), fb_2 (show ¬ 8 = 9 by decide) 6, ad_z _ (by decide) (by decide), fb_2 (show ¬ 7 = 11 by decide) 6, ad_z _ (by decide) (by decide), fb_2 (show ¬ 6 = 10 by decide) 6, ad_a, fb_2 (show ¬ 6 = 7 by decide) 6, ad_a, fb_2 (show ¬ 5 = 9 by decide) 6, ad_z _ (by decide) (by decide), fb_2 (show ¬ 5 = 6 by decide) 6, ad_b _ (by decide), fb_2 (show ¬ 4 = 8 by decide) 6, ad_z _ (by decide) (by decide), fb_2 (show ¬ 4 = 5 by decide) 6, ad_z _ (by decide) (by decide), fb_2 (show ¬ 3 = 7 by decide) 6, ad_z _ (by decide) (by decide), fb_2 (show ¬ 2 = 6 by decide) 6, ad_b _ (by decide), fb_2 (show ¬ 2 = 3 by decide) 6, ad_z _ (by decide) (by decide), fb_2 (show ¬ 1 = 5 by decide) 6, ad_z _ (by decide) (by decide), fb_2 (show ¬ 1 = 2 by decide) 6, ad_z _ (by decide) (by decide), fb_2 (show ¬ 0 = 4 by decide) 6, ad_z _ (by decide) (by decide), fb_2 (show ¬ 0 = 1 by decide) 6, ad_z _ (by decide) (by decide)]
  rw [sd_6_0, sd_6_1, sd_6_2, sd_6_3]
  grind
theorem crk_2_7 (C : Cf) (S : St) : crk C S 2 7 = S 2 7 + sdL ftL C S 7 0 + sdL ftL C S 7 1 + sdL ftL C S 7 2 + sdL ftL C S 7 3 := by
  rw [crk_u, fb_2 (show ¬ 10 = 11 by decide) 7, ad_z _ (by decide) (by decide), fb_2 (show ¬ 9 = 10 by decide) 7, ad_z _ (by decide) (by decide), fb_2 (show ¬ 8 = 9 by decide) 7, ad_z _ (by decide) (by decide), fb_2 (show ¬ 7 = 11 by decide) 7, ad_a, fb_2 (show ¬ 6 = 10 by decide) 7, ad_z _ (by decide) (by decide), fb_2 (show ¬ 6 = 7 by decide) 7, ad_b _ (by decide), fb_2 (show ¬ 5 = 9 by decide) 7, ad_z _ (by decide) (by decide), fb_2 (show ¬ 5 = 6 by decide) 7, ad_z _ (by decide) (by decide), fb_2 (show ¬ 4 = 8 by decide) 7, ad_z _ (by decide) (by decide), fb_2 (show ¬ 4 = 5 by decide) 7, ad_z _ (by decide) (by decide), fb_2 (show ¬ 3 = 7 by decide) 7, ad_b _ (by decide), fb_2 (show ¬ 2 = 6 by decide) 7, ad_z _ (by decide) (by decide), fb_2 (show ¬ 2 = 3 by decide) 7, ad_z _ (by decide) (by decide), fb_2 (show ¬ 1 = 5 by decide) 7, ad_z _ (by decide) (by decide), fb_2 (show ¬ 1 = 2 by decide) 7, ad_z _ (by decide) (by decide), fb_2 (show ¬ 0 = 4 by decide) 7, ad_z _ (by decide) (by decide), fb_2 (show ¬ 0 = 1 by decide) 7, ad_z _ (by decide) (by decide)]
  rw [sd_7_0, sd_7_1, sd_7_2, sd_7_3]
  grind
theorem crk_2_8 (C : Cf) (S : St) : crk C S 2 8 = S 2 8 + sdL ftL C S 8 0 + sdL ftL C S 8 1 + sdL ftL C S 8 2 + sdL ftL C S 8 3 := by
  rw [crk_u, fb_2 (show ¬ 10 = 11 by decide) 8, ad_z _ (by decide) (by decide), fb_2 (show ¬ 9 = 10 by decide) 8, ad_z _ (by decide) (by decide), fb_2 (show ¬ 8 = 9 by decide) 8, ad_a, fb_2 (show ¬ 7 = 11 by decide) 8, ad_z _ (by decide) (by decide), fb_2 (show ¬ 6 = 10 by decide) 8, ad_z _ (by decide) (by decide), fb_2 (show ¬ 6 = 7 by decide) 8, ad_z _ (by decide) (by decide), fb_2 (show ¬ 5 = 9 by decide) 8, ad_z _ (by decide) (by decide), fb_2 (show ¬ 5 = 6 by decide) 8, ad_z _ (by decide) (by decide), fb_2 (show ¬ 4 = 8 by decide) 8, ad_b _ (by decide), fb_2 (show ¬ 4 = 5 by decide) 8, ad_z _ (by decide) (by decide), fb_2 (show ¬ 3 = 7 by decide) 8, ad_z _ (by decide) (by decide), fb_2 (show ¬ 2 = 6 by decide) 8, ad_z _ (by decide) (by decide), fb_2 (show ¬ 2 = 3 by decide) 8, ad_z _ (by decide) (by decide), fb_2 (show ¬ 1 = 5 by decide) 8, ad_z _ (by decide) (by decide), fb_2 (show ¬ 1 = 2 by decide) 8, ad_z _ (by decide) (by decide), fb_2 (show ¬ 0 = 4 by decide) 8, ad_z _ (by decide) (by decide), fb_2 (show ¬ 0 = 1 by decide) 8, ad_z _ (by decide) (by decide)]
  rw [sd_8_0, sd_8_1, sd_8_2, sd_8_3]
  grind
theorem crk_2_9 (C : Cf) (S : St) : crk C S 2 9 = S 2 9 + sdL ftL C S 9 0 + sdL ftL C S 9 1 + sdL ftL C S 9 2 + sdL ftL C S 9 3 := by
  rw [crk_u, fb_2 (show ¬ 10 = 11 by decide) 9, ad_z _ (by decide) (by decide), fb_2 (show ¬ 9 = 10 by decide) 9, ad_a, fb_2 (show ¬ 8 = 9 by decide) 9, ad_b _ (by decide), fb_2 (show ¬ 7 = 11 by decide) 9, ad_z _ (by decide) (by decide), fb_2 (show ¬ 6 = 10 by decide) 9, ad_z _ (by decide) (by decide), fb_2 (show ¬ 6 = 7 by decide) 9, ad_z _ (by decide) (by decide), fb_2 (show ¬ 5 = 9 by decide) 9, ad_b _ (by decide), fb_2 (show ¬ 5 = 6 by decide) 9, ad_z _ (by decide) (by decide), fb_2 (show ¬ 4 = 8 by decide) 9, ad_z _ (by decide) (by decide), fb_2 (show ¬ 4 = 5 by decide) 9, ad_z _ (by decide) (by decide), fb_2 (show ¬ 3 = 7 by decide) 9, ad_z _ (by decide) (by decide), fb_2 (show ¬ 2 = 6 by decide) 9, ad_z _ (by decide) (by decide), fb_2 (show ¬ 2 = 3 by decide) 9, ad_z _ (by decide) (by decide), fb_2 (show ¬ 1 = 5 by decide) 9, ad_z _ (by decide) (by decide), fb_2 (show ¬ 1 = 2 by decide) 9, ad_z _ (by decide) (by decide), fb_2 (show ¬ 0 = 4 by decide) 9, ad_z _ (by decide) (by decide), fb_2 (show ¬ 0 = 1 by decide) 9, ad_z _ (by decide) (by decide)]
  rw [sd_9_0, sd_9_1, sd_9_2, sd_9_3]
  grind
theorem crk_2_10 (C : Cf) (S : St) : crk C S 2 10 = S 2 10 + sdL ftL C S 10 0 + sdL ftL C S 10 1 + sdL ftL C S 10 2 + sdL ftL C S 10 3 := by
  rw [crk_u, fb_2 (show ¬ 10 = 11 by decide) 10, ad_a, fb_2 (show ¬ 9 = 10 by decide) 10, ad_b _ (by decide), fb_2 (show ¬ 8 = 9 by decide) 10, ad_z _ (by decide) (by decide), fb_2 (show ¬ 7 = 11 by decide) 10, ad_z _ (by decide) (by decide), fb_2 (show ¬ 6 = 10 by decide) 10, ad_b _ (by decide), fb_2 (show ¬ 6 = 7 by decide) 10, ad_z _ (by decide) (by decide), fb_2 (show ¬ 5 = 9 by decide) 10, ad_z _ (by decide) (by decide), fb_2 (show ¬ 5 = 6 by decide) 10, ad_z _ (by decide) (by decide), fb_2 (show ¬ 4 = 8 by decide) 10, ad_z _ (by decide) (by decide), fb_2 (show ¬ 4 = 5 by decide) 10, ad_z _ (by decide) (by decide), fb_2 (show ¬ 3 = 7 by decide) 10, ad_z _ (by decide) (by decide), fb_2 (show ¬ 2 = 6 by decide) 10, ad_z _ (by decide) (by decide), fb_2 (show ¬ 2 = 3 by decide) 10, ad_z _ (by decide) (by decide), fb_2 (show ¬ 1 = 5 by decide) 10, ad_z _ (by decide) (by decide), fb_2 (show ¬ 1 = 2 by decide) 10, ad_z _ (by decide) (by decide), fb_2 (show ¬ 0 = 4 by decide) 10, ad_z _ (by decide) (by decide), fb_2 (show ¬ 0 = 1 by decide) 10, ad_z _ (by decide) (by decide)]
  rw [sd_10_0, sd_10_1, sd_10_2, sd_10_3]
  grind
theorem crk_2_11 (C : Cf) (S : St) : crk C S 2 11 = S 2 11 + sdL ftL C S 11 0 + sdL ftL C S 11 1 + sdL ftL C S 11 2 + sdL ftL C S 11 3 := by
  rw [crk_u, fb_2 (show ¬ 10 = 11 by decide) 11, ad_b _ (by decide), fb_2 (show ¬ 9 = 10 by decide) 11, ad_z _ (by decide) (by decide), fb_2 (show ¬ 8 = 9 by decide) 11, ad_z _ (by decide) (by decide), fb_2 (show ¬ 7 = 11 by decide) 11, ad_b _ (by decide), fb_2 (show ¬ 6 = 10 by decide) 11, ad_z _ (by decide) (by decide), fb_2 (show ¬ 6 = 7 by decide) 11, ad_z _ (by decide) (by decide), fb_2 (show ¬ 5 = 9 by decide) 11, ad_z _ (by decide) (by decide), fb_2 (show ¬ 5 = 6 by decide) 11, ad_z _ (by decide) (by decide), fb_2 (show ¬ 4 = 8 by decide) 11, ad_z _ (by decide) (by decide), fb_2 (show ¬ 4 = 5 by decide) 11, ad_z _ (by decide) (by decide), fb_2 (show ¬ 3 = 7 by decide) 11, ad_z _ (by decide) (by decide), fb_2 (show ¬ 2 = 6 by decide) 11, ad_z _ (by decide) (by decide), fb_2 (show ¬ 2 = 3 by decide) 11, ad_z _ (by decide) (by decide), fb_2 (show ¬ 1 = 5 by decide) 11, ad_z _ (by decide) (by decide), fb_2 (show ¬ 1 = 2 by decide) 11, ad_z _ (by decide) (by decide), fb_2 (show ¬ 0 = 4 by decide) 11, ad_z _ (by decide) (by decide), fb_2 (show ¬ 0 = 1 by decide) 11, ad_z _ (by decide) (by decide)]
  rw [sd_11_0, sd_11_1, sd_11_2, sd_11_3]
  grind
theorem crk_far (C : Cf) (S : St) (c : Nat) {j : Nat} (h : 12 ≤ j) (hc : c = 0 ∨ c = 1 ∨ c = 2) : crk C S c j = S c j := by
  rw [crk_u]
  rcases hc with rfl | rfl | rfl
  · rw [fb_0 (show ¬ 10 = 11 by decide) j, ad_z _ (show ¬ j = 10 by omega) (show ¬ j = 11 by omega), fb_0 (show ¬ 9 = 10 by decide) j, ad_z _ (show ¬ j = 9 by omega) (show ¬ j = 10 by omega), fb_0 (show ¬ 8 = 9 by decide) j, ad_z _ (show ¬ j = 8 by omega) (show ¬ j = 9 by omega), fb_0 (show ¬ 7 = 11 by decide) j, ad_z _ (show ¬ j = 7 by omega) (show ¬ j = 11 by omega), fb_0 (show ¬ 6 = 10 by decide) j, ad_z _ (show ¬ j = 6 by omega) (show ¬ j = 10 by omega), fb_0 (show ¬ 6 = 7 by decide) j, ad_z _ (show ¬ j = 6 by omega) (show ¬ j = 7 by omega), fb_0 (show ¬ 5 = 9 by decide) j, ad_z _ (show ¬ j = 5 by omega) (show ¬ j = 9 by omega), fb_0 (show ¬ 5 = 6 by decide) j, ad_z _ (show ¬ j = 5 by omega) (show ¬ j = 6 by omega), fb_0 (show ¬ 4 = 8 by decide) j, ad_z _ (show ¬ j = 4 by omega) (show ¬ j = 8 by omega), fb_0 (show ¬ 4 = 5 by decide) j, ad_z _ (show ¬ j = 4 by omega) (show ¬ j = 5 by omega), fb_0 (show ¬ 3 = 7 by decide) j, ad_z _ (show ¬ j = 3 by omega) (show ¬ j = 7 by omega), fb_0 (show ¬ 2 = 6 by decide) j, ad_z _ (show ¬ j = 2 by omega) (show ¬ j = 6 by omega), fb_0 (show ¬ 2 = 3 by decide) j, ad_z _ (show ¬ j = 2 by omega) (show ¬ j = 3 by omega), fb_0 (show ¬ 1 = 5 by decide) j, ad_z _ (show ¬ j = 1 by omega) (show ¬ j = 5 by omega), fb_0 (show ¬ 1 = 2 by decide) j, ad_z _ (show ¬ j = 1 by omega) (show ¬ j = 2 by omega), fb_0 (show ¬ 0 = 4 by decide) j, ad_z _ (show ¬ j = 0 by omega) (show ¬ j = 4 by omega), fb_0 (show ¬ 0 = 1 by decide) j, ad_z _ (show ¬ j = 0 by omega) (show ¬ j = 1 by omega)]
  · rw [fb_1 (show ¬ 10 = 11 by decide) j, ad_z _ (show ¬ j = 10 by omega) (show ¬ j = 11 by omega), fb_1 (show ¬ 9 = 10 by decide) j, ad_z _ (show ¬ j = 9 by omega) (show ¬ j = 10 by omega), fb_1 (show ¬ 8 = 9 by decide) j, ad_z _ (show ¬ j = 8 by omega) (show ¬ j = 9 by omega), fb_1 (show ¬ 7 = 11 by decide) j, ad_z _ (show ¬ j = 7 by omega) (show ¬ j = 11 by omega), fb_1 (show ¬ 6 = 10 by decide) j, ad_z _ (show ¬ j = 6 by omega) (show ¬ j = 10 by omega), fb_1 (show ¬ 6 = 7 by decide) j, ad_z _ (show ¬ j = 6 by omega) (show ¬ j = 7 by omega), fb_1 (show ¬ 5 = 9 by decide) j, ad_z _ (show ¬ j = 5 by omega) (show ¬ j = 9 by omega), fb_1 (show ¬ 5 = 6 by decide) j, ad_z _ (show ¬ j = 5 by omega) (show ¬ j = 6 by omega), fb_1 (show ¬ 4 = 8 by decide) j, ad_z _ (show ¬ j = 4 by omega) (show ¬ j = 8 by omega), fb_1 (show ¬ 4 = 5 by decide) j, ad_z _ (show ¬ j = 4 by omega) (show ¬ j = 5 by omega), fb_1 (show ¬ 3 = 7 by decide) j, ad_z _ (show ¬ j = 3 by omega) (show ¬ j = 7 by omega), fb_1 (show ¬ 2 = 6 by decide) j, ad_z _ (show ¬ j = 2 by omega) (show ¬ j = 6 by omega), fb_1 (show ¬ 2 = 3 by decide) j, ad_z _ (show ¬ j = 2 by omega) (show ¬ j = 3 by omega), fb_1 (show ¬ 1 = 5 by decide) j, ad_z _ (show ¬ j = 1 by omega) (show ¬ j = 5 by omega), fb_1 (show ¬ 1 = 2 by decide) j, ad_z _ (show ¬ j = 1 by omega) (show ¬ j = 2 by omega), fb_1 (show ¬ 0 = 4 by decide) j, ad_z _ (show ¬ j = 0 by omega) (show ¬ j = 4 by omega), fb_1 (show ¬ 0 = 1 by decide) j, ad_z _ (show ¬ j = 0 by omega) (show ¬ j = 1 by omega)]
  · rw [fb_2 (show ¬ 10 = 11 by decide) j, ad_z _ (show ¬ j = 10 by omega) (show ¬ j = 11 by omega), fb_2 (show ¬ 9 = 10 by decide) j, ad_z _ (show ¬ j = 9 by omega) (show ¬ j = 10 by omega), fb_2 (show ¬ 8 = 9 by decide) j, ad_z _ (show ¬ j = 8 by omega) (show ¬ j = 9 by omega), fb_2 (show ¬ 7 = 11 by decide) j, ad_z _ (show ¬ j = 7 by omega) (show ¬ j = 11 by omega), fb_2 (show ¬ 6 = 10 by decide) j, ad_z _ (show ¬ j = 6 by omega) (show ¬ j = 10 by omega), fb_2 (show ¬ 6 = 7 by decide) j, ad_z _ (show ¬ j = 6 by omega) (show ¬ j = 7 by omega), fb_2 (show ¬ 5 = 9 by decide) j, ad_z _ (show ¬ j = 5 by omega) (show ¬ j = 9 by omega), fb_2 (show ¬ 5 = 6 by decide) j, ad_z _ (show ¬ j = 5 by omega) (show ¬ j = 6 by omega), fb_2 (show ¬ 4 = 8 by decide) j, ad_z _ (show ¬ j = 4 by omega) (show ¬ j = 8 by omega), fb_2 (show ¬ 4 = 5 by decide) j, ad_z _ (show ¬ j = 4 by omega) (show ¬ j = 5 by omega), fb_2 (show ¬ 3 = 7 by decide) j, ad_z _ (show ¬ j = 3 by omega) (show ¬ j = 7 by omega), fb_2 (show ¬ 2 = 6 by decide) j, ad_z _ (show ¬ j = 2 by omega) (show ¬ j = 6 by omega), fb_2 (show ¬ 2 = 3 by decide) j, ad_z _ (show ¬ j = 2 by omega) (show ¬ j = 3 by omega), fb_2 (show ¬ 1 = 5 by decide) j, ad_z _ (show ¬ j = 1 by omega) (show ¬ j = 5 by omega), fb_2 (show ¬ 1 = 2 by decide) j, ad_z _ (show ¬ j = 1 by omega) (show ¬ j = 2 by omega), fb_2 (show ¬ 0 = 4 by decide) j, ad_z _ (show ¬ j = 0 by omega) (show ¬ j = 4 by omega), fb_2 (show ¬ 0 = 1 by decide) j, ad_z _ (show ¬ j = 0 by omega) (show ¬ j = 1 by omega)]
theorem gX_at (C : Cf) (S : St) (X : St) (b j c : Nat) (hc : c = 0 ∨ c = 1 ∨ c = 2) : gX C S b X c j = if j = b then S c b + sdL (if c = 0 then fwL else if c = 1 then fhL else ftL) C S b 0 + sdL (if c = 0 then fwL else if c = 1 then fhL else ftL) C S b 1 + sdL (if c = 0 then fwL else if c = 1 then fhL else ftL) C S b 2 + sdL (if c = 0 then fwL else if c = 1 then fhL else ftL) C S b 3 else X c j := by
  show sdX C S b 3 (sdX C S b 2 (sdX C S b 1 (sdX C S b 0 (u2 (u2 (u2 X 0 b (S 0 b)) 1 b (S 1 b)) 2 b (S 2 b))))) c j = _
  unfold sdX
  rcases hc with rfl | rfl | rfl
  · simp only [u2_ap]
    by_cases h : j = b
    · simp [h]
    · simp [h]
  · simp only [u2_ap]
    by_cases h : j = b
    · simp [h]
    · simp [h]
  · simp only [u2_ap]
    by_cases h : j = b
    · simp [h]
    · simp [h]
theorem gXs_at (C : Cf) (S : St) (Y : St) (c : Nat) (hc : c = 0 ∨ c = 1 ∨ c = 2) : ∀ n j, j < n → itr (gX C S) Y n c j = S c j + sdL (if c = 0 then fwL else if c = 1 then fhL else ftL) C S j 0 + sdL (if c = 0 then fwL else if c = 1 then fhL else ftL) C S j 1 + sdL (if c = 0 then fwL else if c = 1 then fhL else ftL) C S j 2 + sdL (if c = 0 then fwL else if c = 1 then fhL else ftL) C S j 3
  | 0, j, h => absurd h (Nat.not_lt_zero j)
  | n + 1, j, h => by
    show gX C S n (itr (gX C S) Y n) c j = _
    rw [gX_at C S _ n j c hc]
    by_cases hj : j = n
    · rw [if_pos hj, hj]
    · rw [if_neg hj]
      exact gXs_at C S Y c hc n j (by omega)
theorem gX_crk (C : Cf) (S Y : St) : ∀ b, b < 12 → ∀ c, c = 0 ∨ c = 1 ∨ c = 2 → itr (gX C S) Y 12 c b = crk C S c b := by
  intro b hb c hc
  rw [gXs_at C S Y c hc 12 b hb]
  rcases hc with rfl | rfl | rfl <;> rcases b12 hb with rfl | rfl | rfl | rfl | rfl | rfl | rfl | rfl | rfl | rfl | rfl | rfl
  · exact (crk_0_0 C S).symm
  · exact (crk_0_1 C S).symm
  · exact (crk_0_2 C S).symm
  · exact (crk_0_3 C S).symm
  · exact (crk_0_4 C S).symm
  · exact (crk_0_5 C S).symm
  · exact (crk_0_6 C S).symm
  · exact (crk_0_7 C S).symm
  · exact (crk_0_8 C S).symm
  · exact (crk_0_9 C S).symm
  · exact (crk_0_10 C S).symm
  · exact (crk_0_11 C S).symm
  · exact (crk_1_0 C S).symm
  · exact (crk_1_1 C S).symm
  · exact (crk_1_2 C S).symm
  · exact (crk_1_3 C S).symm
  · exact (crk_1_4 C S).symm
  · exact (crk_1_5 C S).symm
  · exact (crk_1_6 C S).symm
  · exact (crk_1_7 C S).symm
  · exact (crk_1_8 C S).symm
  · exact (crk_1_9 C S).symm
  · exact (crk_1_10 C S).symm
  · exact (crk_1_11 C S).symm
  · exact (crk_2_0 C S).symm
  · exact (crk_2_1 C S).symm
  · exact (crk_2_2 C S).symm
  · exact (crk_2_3 C S).symm
  · exact (crk_2_4 C S).symm
  · exact (crk_2_5 C S).symm
  · exact (crk_2_6 C S).symm
  · exact (crk_2_7 C S).symm
  · exact (crk_2_8 C S).symm
  · exact (crk_2_9 C S).symm
  · exact (crk_2_10 C S).symm
  · exact (crk_2_11 C S).symm
