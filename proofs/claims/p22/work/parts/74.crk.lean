/-! the cracks, block by block -/
/-- what b gains from its neighbour o, of water, heat and tracer -/
def fwL (S : St) (o b : Nat) (wd : Int32) : Int64 := if S 0 o ≤ S 0 b then (if S 0 b ≤ S 0 o then 0 else -((S 0 b - S 0 o) * wd.toInt64 / 1000)) else (S 0 o - S 0 b) * wd.toInt64 / 1000
def fhL (S : St) (o b : Nat) (wd : Int32) : Int64 := if S 0 o ≤ S 0 b then (if S 0 b ≤ S 0 o then 0 else -((S 0 b - S 0 o) * wd.toInt64 / 1000 * deg S b)) else (S 0 o - S 0 b) * wd.toInt64 / 1000 * deg S o
def ftL (S : St) (o b : Nat) (wd : Int32) : Int64 := if S 0 o ≤ S 0 b then (if S 0 b ≤ S 0 o then 0 else -(S 2 b * ((S 0 b - S 0 o) * wd.toInt64 / 1000) / S 0 b)) else S 2 o * ((S 0 o - S 0 b) * wd.toInt64 / 1000) / S 0 o
def zrL (S : St) : St := fun c b => if c = 0 then S 0 b else if c = 1 then deg S b else S 2 b
theorem fb_0 {S T : St} {a b : Nat} {wd : Int32} (h : ¬ a = b) (j : Nat) : fbS T (zrL S) a b wd 0 j = T 0 j + (if j = a then fwL S b a wd else if j = b then fwL S a b wd else 0) := by
  unfold fbS fwL
  show (if S 0 a ≤ S 0 b then _ else _) 0 j = _
  by_cases h1 : S 0 a ≤ S 0 b
  · rw [if_pos h1]
    by_cases h2 : S 0 b ≤ S 0 a
    · rw [if_pos (show zrL S 0 b ≤ zrL S 0 a from h2), if_pos h2, if_pos h1, if_pos h1, if_pos h2]
      simp
    · rw [if_neg (show ¬ zrL S 0 b ≤ zrL S 0 a from h2), if_neg h2, if_pos h1, if_neg h2]
      unfold flowS takeS
      simp only [u2_ap]
      by_cases ja : j = a
      · subst ja
        simp [h]
        rfl
      · by_cases jb : j = b
        · subst jb
          simp [ja]
          rw [Int64.sub_eq_add_neg]
          rfl
        · simp [ja, jb]
  · rw [if_neg h1]
    have h2 : S 0 b ≤ S 0 a := by rw [z_le] at h1 ⊢; omega
    rw [if_pos h2, if_neg h1]
    unfold flowS takeS
    simp only [u2_ap]
    by_cases ja : j = a
    · subst ja
      simp [h, h1]
      rw [Int64.sub_eq_add_neg]
      rfl
    · by_cases jb : j = b
      · subst jb
        simp [ja, h1]
        rfl
      · simp [ja, jb]
theorem fb_1 {S T : St} {a b : Nat} {wd : Int32} (h : ¬ a = b) (j : Nat) : fbS T (zrL S) a b wd 1 j = T 1 j + (if j = a then fhL S b a wd else if j = b then fhL S a b wd else 0) := by
  unfold fbS fhL
  show (if S 0 a ≤ S 0 b then _ else _) 1 j = _
  by_cases h1 : S 0 a ≤ S 0 b
  · rw [if_pos h1]
    by_cases h2 : S 0 b ≤ S 0 a
    · rw [if_pos (show zrL S 0 b ≤ zrL S 0 a from h2), if_pos h2, if_pos h1, if_pos h1, if_pos h2]
      simp
    · rw [if_neg (show ¬ zrL S 0 b ≤ zrL S 0 a from h2), if_neg h2, if_pos h1, if_neg h2]
      unfold flowS takeS
      simp only [u2_ap]
      by_cases ja : j = a
      · subst ja
        simp [h]
        rfl
      · by_cases jb : j = b
        · subst jb
          simp [ja]
          rw [Int64.sub_eq_add_neg]
          rfl
        · simp [ja, jb]
  · rw [if_neg h1]
    have h2 : S 0 b ≤ S 0 a := by rw [z_le] at h1 ⊢; omega
    rw [if_pos h2, if_neg h1]
    unfold flowS takeS
    simp only [u2_ap]
    by_cases ja : j = a
    · subst ja
      simp [h, h1]
      rw [Int64.sub_eq_add_neg]
      rfl
    · by_cases jb : j = b
      · subst jb
        simp [ja, h1]
        rfl
      · simp [ja, jb]
theorem fb_2 {S T : St} {a b : Nat} {wd : Int32} (h : ¬ a = b) (j : Nat) : fbS T (zrL S) a b wd 2 j = T 2 j + (if j = a then ftL S b a wd else if j = b then ftL S a b wd else 0) := by
  unfold fbS ftL
  show (if S 0 a ≤ S 0 b then _ else _) 2 j = _
  by_cases h1 : S 0 a ≤ S 0 b
  · rw [if_pos h1]
    by_cases h2 : S 0 b ≤ S 0 a
    · rw [if_pos (show zrL S 0 b ≤ zrL S 0 a from h2), if_pos h2, if_pos h1, if_pos h1, if_pos h2]
      simp
    · rw [if_neg (show ¬ zrL S 0 b ≤ zrL S 0 a from h2), if_neg h2, if_pos h1, if_neg h2]
      unfold flowS takeS
      simp only [u2_ap]
      by_cases ja : j = a
      · subst ja
        simp [h]
        rfl
      · by_cases jb : j = b
        · subst jb
          simp [ja]
          rw [Int64.sub_eq_add_neg]
          rfl
        · simp [ja, jb]
  · rw [if_neg h1]
    have h2 : S 0 b ≤ S 0 a := by rw [z_le] at h1 ⊢; omega
    rw [if_pos h2, if_neg h1]
    unfold flowS takeS
    simp only [u2_ap]
    by_cases ja : j = a
    · subst ja
      simp [h, h1]
      rw [Int64.sub_eq_add_neg]
      rfl
    · by_cases jb : j = b
      · subst jb
        simp [ja, h1]
        rfl
      · simp [ja, jb]
/-- one side of a block -/
def sdL (f : St → Nat → Nat → Int32 → Int64) (C : Cf) (S : St) (b i : Nat) : Int64 := if bsd b i = -1 then 0 else f S (bsd b i).toNatClampNeg b (wdL C b i)

