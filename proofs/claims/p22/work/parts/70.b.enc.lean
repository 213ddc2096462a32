/-! the law's rows, told by the class's state -/
def lrC (C : Cf) : Nat → Int32 := fun i => if i % 2 = 0 then C 0 (i / 2) else C 1 (i / 2)
def lrE (C : Cf) (N : Nat → Nat) (S : St) : Nat → Int32 := fun i => if i % 7 = 0 then C 2 (i / 7) else if i % 7 = 1 then C 3 (i / 7) else if i % 7 = 2 then C 4 (i / 7) else if i % 7 = 3 then (S 4 (i / 7)).toInt32 else if i % 7 = 4 then (S 5 (i / 7)).toInt32 else if i % 7 = 5 then (S 6 (i / 7)).toInt32 else if i / 7 < N 0 then (S 8 (i / 7)).toInt32 + 1 else 0
def lrG (C : Cf) (S : St) : Nat → Int32 := fun i => if i % 5 = 0 then C 7 (i / 5) else if i % 5 = 1 then C 8 (i / 5) else if i % 5 = 2 then C 9 (i / 5) else if i % 5 = 3 then (S 9 (i / 5)).toInt32 else (S 10 (i / 5)).toInt32
def lrA (S : St) : Nat → Int64 := fun i => S 11 (10 * (i / 8) + i % 8)
def lrU (C : Cf) : Nat → Int32 := fun i => if i % 2 = 0 then C 5 (i / 2) else C 6 (i / 2)
def lrK (Qk : Nat → Int64) : Nat → Int32 := fun i => if i < 60 then (Qk i).toInt32 else 0
def lrQ (C : Cf) (N : Nat → Nat) (S : St) : Nat → Int32 := fun i => if i = 0 then (S 13 0).toInt32 else if i = 1 then nI (N 0) else if i = 2 then nI (N 2) else if i = 3 then nI (N 1) else if i = 4 then (S 14 0).toInt32 else if i = 5 then C 10 0 else 0
/-- the law's thirteen rows -/
def wL (y : Nat → Nat) (cI cJ : ClassId) (C : Cf) (N : Nat → Nat) (S : St) (Qk : Nat → Int64) : va_W := [(y 0, .inl (cJ, 12, .inr (.inl (S 0)))), (y 1, .inl (cJ, 12, .inr (.inl (S 1)))), (y 2, .inl (cJ, 12, .inr (.inl (S 2)))), (y 3, .inl (cJ, 12, .inr (.inl (S 3)))), (y 4, .inl (cI, 24, .inl (lrC C))), (y 5, .inl (cI, 56, .inl (lrE C N S))), (y 6, .inl (cJ, 8, .inr (.inl (S 7)))), (y 7, .inl (cI, 15, .inl (lrG C S))), (y 8, .inl (cJ, 24, .inr (.inl (lrA S)))), (y 9, .inl (cI, 6, .inl (lrU C))), (y 10, .inl (cJ, 8, .inr (.inl (S 12)))), (y 11, .inl (cI, 60, .inl (lrK Qk))), (y 12, .inl (cI, 6, .inl (lrQ C N S)))]
theorem lrC_0 (C : Cf) (k : Nat) : lrC C (2 * k) = C 0 k := by
  unfold lrC
  rw [if_pos (by omega), show 2 * k / 2 = k by omega]
theorem lrC_1 (C : Cf) (k : Nat) : lrC C (2 * k + 1) = C 1 k := by
  unfold lrC
  rw [if_neg (by omega), show (2 * k + 1) / 2 = k by omega]
theorem lrU_0 (C : Cf) (k : Nat) : lrU C (2 * k) = C 5 k := by
  unfold lrU
  rw [if_pos (by omega), show 2 * k / 2 = k by omega]
theorem lrU_1 (C : Cf) (k : Nat) : lrU C (2 * k + 1) = C 6 k := by
  unfold lrU
  rw [if_neg (by omega), show (2 * k + 1) / 2 = k by omega]
theorem lrE_0 (C : Cf) (N : Nat → Nat) (S : St) (k : Nat) : lrE C N S (7 * k) = C 2 k := by
  unfold lrE
  rw [if_pos (by omega), show (7 * k) / 7 = k by omega]
theorem lrE_1 (C : Cf) (N : Nat → Nat) (S : St) (k : Nat) : lrE C N S (7 * k + 1) = C 3 k := by
  unfold lrE
  rw [if_neg (by omega), if_pos (by omega), show (7 * k + 1) / 7 = k by omega]
theorem lrE_2 (C : Cf) (N : Nat → Nat) (S : St) (k : Nat) : lrE C N S (7 * k + 2) = C 4 k := by
  unfold lrE
  rw [if_neg (by omega), if_neg (by omega), if_pos (by omega), show (7 * k + 2) / 7 = k by omega]
theorem lrE_3 (C : Cf) (N : Nat → Nat) (S : St) (k : Nat) : lrE C N S (7 * k + 3) = (S 4 k).toInt32 := by
  unfold lrE
  rw [if_neg (by omega), if_neg (by omega), if_neg (by omega), if_pos (by omega), show (7 * k + 3) / 7 = k by omega]
theorem lrE_4 (C : Cf) (N : Nat → Nat) (S : St) (k : Nat) : lrE C N S (7 * k + 4) = (S 5 k).toInt32 := by
  unfold lrE
  rw [if_neg (by omega), if_neg (by omega), if_neg (by omega), if_neg (by omega), if_pos (by omega), show (7 * k + 4) / 7 = k by omega]
theorem lrE_5 (C : Cf) (N : Nat → Nat) (S : St) (k : Nat) : lrE C N S (7 * k + 5) = (S 6 k).toInt32 := by
  unfold lrE
  rw [if_neg (by omega), if_neg (by omega), if_neg (by omega), if_neg (by omega), if_neg (by omega), if_pos (by omega), show (7 * k + 5) / 7 = k by omega]
theorem lrE_6 (C : Cf) (N : Nat → Nat) (S : St) {k : Nat} (h : k < N 0) : lrE C N S (7 * k + 6) = (S 8 k).toInt32 + 1 := by
  unfold lrE
  rw [if_neg (by omega), if_neg (by omega), if_neg (by omega), if_neg (by omega), if_neg (by omega), if_neg (by omega), show (7 * k + 6) / 7 = k by omega, if_pos h]
theorem lrG_0 (C : Cf) (S : St) (k : Nat) : lrG C S (5 * k) = C 7 k := by
  unfold lrG
  rw [if_pos (by omega), show (5 * k) / 5 = k by omega]
theorem lrG_1 (C : Cf) (S : St) (k : Nat) : lrG C S (5 * k + 1) = C 8 k := by
  unfold lrG
  rw [if_neg (by omega), if_pos (by omega), show (5 * k + 1) / 5 = k by omega]
theorem lrG_2 (C : Cf) (S : St) (k : Nat) : lrG C S (5 * k + 2) = C 9 k := by
  unfold lrG
  rw [if_neg (by omega), if_neg (by omega), if_pos (by omega), show (5 * k + 2) / 5 = k by omega]
theorem lrG_3 (C : Cf) (S : St) (k : Nat) : lrG C S (5 * k + 3) = (S 9 k).toInt32 := by
  unfold lrG
  rw [if_neg (by omega), if_neg (by omega), if_neg (by omega), if_pos (by omega), show (5 * k + 3) / 5 = k by omega]
theorem lrG_4 (C : Cf) (S : St) (k : Nat) : lrG C S (5 * k + 4) = (S 10 k).toInt32 := by
  unfold lrG
  rw [if_neg (by omega), if_neg (by omega), if_neg (by omega), if_neg (by omega), show (5 * k + 4) / 5 = k by omega]
theorem lrA_r (S : St) (k : Nat) {n : Nat} (h : n < 8) : lrA S (8 * k + n) = S 11 (10 * k + n) := by
  unfold lrA
  rw [show (8 * k + n) / 8 = k by omega, show (8 * k + n) % 8 = n by omega]
theorem lrK_r (Qk : Nat → Int64) {i : Nat} (h : i < 60) : lrK Qk i = (Qk i).toInt32 := by
  unfold lrK
  rw [if_pos h]
theorem lrC_w0 (C : Cf) (k : Nat) (x : Int32) : upd (lrC C) (2 * k) x = lrC (c2 C 0 k x) := by
  funext i
  show (if i = 2 * k then x else lrC C i) = _
  by_cases hi : i = 2 * k
  · rw [if_pos hi, hi, lrC_0]
    show x = if k = k then x else C 0 k
    rw [if_pos rfl]
  · rw [if_neg hi]
    by_cases hk : i / 2 = k
    · have hj : ¬ i % 2 = 0 := by omega
      unfold lrC
      simp only [if_neg hj]
      rfl
    · unfold lrC
      have e : c2 C 0 k x 0 (i / 2) = C 0 (i / 2) := if_neg hk
      simp only [e]
      rfl
theorem lrC_w1 (C : Cf) (k : Nat) (x : Int32) : upd (lrC C) (2 * k + 1) x = lrC (c2 C 1 k x) := by
  funext i
  show (if i = 2 * k + 1 then x else lrC C i) = _
  by_cases hi : i = 2 * k + 1
  · rw [if_pos hi, hi, lrC_1]
    show x = if k = k then x else C 1 k
    rw [if_pos rfl]
  · rw [if_neg hi]
    by_cases hk : i / 2 = k
    · have hj : i % 2 = 0 := by omega
      unfold lrC
      simp only [if_pos hj]
      rfl
    · unfold lrC
      have e : c2 C 1 k x 1 (i / 2) = C 1 (i / 2) := if_neg hk
      simp only [e]
      rfl
theorem lrU_w0 (C : Cf) (k : Nat) (x : Int32) : upd (lrU C) (2 * k) x = lrU (c2 C 5 k x) := by
  funext i
  show (if i = 2 * k then x else lrU C i) = _
  by_cases hi : i = 2 * k
  · rw [if_pos hi, hi, lrU_0]
    show x = if k = k then x else C 5 k
    rw [if_pos rfl]
  · rw [if_neg hi]
    by_cases hk : i / 2 = k
    · have hj : ¬ i % 2 = 0 := by omega
      unfold lrU
      simp only [if_neg hj]
      rfl
    · unfold lrU
      have e : c2 C 5 k x 5 (i / 2) = C 5 (i / 2) := if_neg hk
      simp only [e]
      rfl
theorem lrU_w1 (C : Cf) (k : Nat) (x : Int32) : upd (lrU C) (2 * k + 1) x = lrU (c2 C 6 k x) := by
  funext i
  show (if i = 2 * k + 1 then x else lrU C i) = _
  by_cases hi : i = 2 * k + 1
  · rw [if_pos hi, hi, lrU_1]
    show x = if k = k then x else C 6 k
    rw [if_pos rfl]
  · rw [if_neg hi]
    by_cases hk : i / 2 = k
    · have hj : i % 2 = 0 := by omega
      unfold lrU
      simp only [if_pos hj]
      rfl
    · unfold lrU
      have e : c2 C 6 k x 6 (i / 2) = C 6 (i / 2) := if_neg hk
      simp only [e]
      rfl
theorem lrE_w0 (C : Cf) (N : Nat → Nat) (S : St) (k : Nat) (x : Int32) : upd (lrE C N S) (7 * k) x = lrE (c2 C 2 k x) N S := by
  funext i
  show (if i = 7 * k then x else lrE C N S i) = _
  by_cases hi : i = 7 * k
  · rw [if_pos hi, hi, lrE_0]
    show x = if k = k then x else C 2 k
    rw [if_pos rfl]
  · rw [if_neg hi]
    by_cases hk : i / 7 = k
    · have hj : ¬ i % 7 = 0 := by omega
      unfold lrE
      simp only [if_neg hj]
      rfl
    · unfold lrE
      have e : c2 C 2 k x 2 (i / 7) = C 2 (i / 7) := if_neg hk
      simp only [e]
      rfl
theorem lrE_w1 (C : Cf) (N : Nat → Nat) (S : St) (k : Nat) (x : Int32) : upd (lrE C N S) (7 * k + 1) x = lrE (c2 C 3 k x) N S := by
  funext i
  show (if i = 7 * k + 1 then x else lrE C N S i) = _
  by_cases hi : i = 7 * k + 1
  · rw [if_pos hi, hi, lrE_1]
    show x = if k = k then x else C 3 k
    rw [if_pos rfl]
  · rw [if_neg hi]
    by_cases hk : i / 7 = k
    · have hj : ¬ i % 7 = 1 := by omega
      unfold lrE
      simp only [if_neg hj]
      rfl
    · unfold lrE
      have e : c2 C 3 k x 3 (i / 7) = C 3 (i / 7) := if_neg hk
      simp only [e]
      rfl
theorem lrE_w2 (C : Cf) (N : Nat → Nat) (S : St) (k : Nat) (x : Int32) : upd (lrE C N S) (7 * k + 2) x = lrE (c2 C 4 k x) N S := by
  funext i
  show (if i = 7 * k + 2 then x else lrE C N S i) = _
  by_cases hi : i = 7 * k + 2
  · rw [if_pos hi, hi, lrE_2]
    show x = if k = k then x else C 4 k
    rw [if_pos rfl]
  · rw [if_neg hi]
    by_cases hk : i / 7 = k
    · have hj : ¬ i % 7 = 2 := by omega
      unfold lrE
      simp only [if_neg hj]
      rfl
    · unfold lrE
      have e : c2 C 4 k x 4 (i / 7) = C 4 (i / 7) := if_neg hk
      simp only [e]
      rfl
theorem lrG_w0 (C : Cf) (S : St) (k : Nat) (x : Int32) : upd (lrG C S) (5 * k) x = lrG (c2 C 7 k x) S := by
  funext i
  show (if i = 5 * k then x else lrG C S i) = _
  by_cases hi : i = 5 * k
  · rw [if_pos hi, hi, lrG_0]
    show x = if k = k then x else C 7 k
    rw [if_pos rfl]
  · rw [if_neg hi]
    by_cases hk : i / 5 = k
    · have hj : ¬ i % 5 = 0 := by omega
      unfold lrG
      simp only [if_neg hj]
      rfl
    · unfold lrG
      have e : c2 C 7 k x 7 (i / 5) = C 7 (i / 5) := if_neg hk
      simp only [e]
      rfl
theorem lrG_w1 (C : Cf) (S : St) (k : Nat) (x : Int32) : upd (lrG C S) (5 * k + 1) x = lrG (c2 C 8 k x) S := by
  funext i
  show (if i = 5 * k + 1 then x else lrG C S i) = _
  by_cases hi : i = 5 * k + 1
  · rw [if_pos hi, hi, lrG_1]
    show x = if k = k then x else C 8 k
    rw [if_pos rfl]
  · rw [if_neg hi]
    by_cases hk : i / 5 = k
    · have hj : ¬ i % 5 = 1 := by omega
      unfold lrG
      simp only [if_neg hj]
      rfl
    · unfold lrG
      have e : c2 C 8 k x 8 (i / 5) = C 8 (i / 5) := if_neg hk
      simp only [e]
      rfl
theorem lrG_w2 (C : Cf) (S : St) (k : Nat) (x : Int32) : upd (lrG C S) (5 * k + 2) x = lrG (c2 C 9 k x) S := by
  funext i
  show (if i = 5 * k + 2 then x else lrG C S i) = _
  by_cases hi : i = 5 * k + 2
  · rw [if_pos hi, hi, lrG_2]
    show x = if k = k then x else C 9 k
    rw [if_pos rfl]
  · rw [if_neg hi]
    by_cases hk : i / 5 = k
    · have hj : ¬ i % 5 = 2 := by omega
      unfold lrG
      simp only [if_neg hj]
      rfl
    · unfold lrG
      have e : c2 C 9 k x 9 (i / 5) = C 9 (i / 5) := if_neg hk
      simp only [e]
      rfl
theorem lrE_w3 (C : Cf) (N : Nat → Nat) (S : St) (k : Nat) {x : Int32} {v : Int64} (h : v.toInt32 = x) : upd (lrE C N S) (7 * k + 3) x = lrE C N (u2 S 4 k v) := by
  subst h
  funext i
  show (if i = 7 * k + 3 then v.toInt32 else lrE C N S i) = _
  by_cases hi : i = 7 * k + 3
  · rw [if_pos hi, hi, lrE_3, u2_same]
  · rw [if_neg hi]
    by_cases hk : i / 7 = k
    · have hj : ¬ i % 7 = 3 := by omega
      unfold lrE
      skip
      simp only [if_neg hj]; rfl
    · unfold lrE
      have e : u2 S 4 k v 4 (i / 7) = S 4 (i / 7) := u2_ne S 4 v hk
      simp only [e]
      rfl
theorem lrE_w4 (C : Cf) (N : Nat → Nat) (S : St) (k : Nat) {x : Int32} {v : Int64} (h : v.toInt32 = x) : upd (lrE C N S) (7 * k + 4) x = lrE C N (u2 S 5 k v) := by
  subst h
  funext i
  show (if i = 7 * k + 4 then v.toInt32 else lrE C N S i) = _
  by_cases hi : i = 7 * k + 4
  · rw [if_pos hi, hi, lrE_4, u2_same]
  · rw [if_neg hi]
    by_cases hk : i / 7 = k
    · have hj : ¬ i % 7 = 4 := by omega
      unfold lrE
      skip
      simp only [if_neg hj]; rfl
    · unfold lrE
      have e : u2 S 5 k v 5 (i / 7) = S 5 (i / 7) := u2_ne S 5 v hk
      simp only [e]
      rfl
theorem lrE_w5 (C : Cf) (N : Nat → Nat) (S : St) (k : Nat) {x : Int32} {v : Int64} (h : v.toInt32 = x) : upd (lrE C N S) (7 * k + 5) x = lrE C N (u2 S 6 k v) := by
  subst h
  funext i
  show (if i = 7 * k + 5 then v.toInt32 else lrE C N S i) = _
  by_cases hi : i = 7 * k + 5
  · rw [if_pos hi, hi, lrE_5, u2_same]
  · rw [if_neg hi]
    by_cases hk : i / 7 = k
    · have hj : ¬ i % 7 = 5 := by omega
      unfold lrE
      skip
      simp only [if_neg hj]; rfl
    · unfold lrE
      have e : u2 S 6 k v 6 (i / 7) = S 6 (i / 7) := u2_ne S 6 v hk
      simp only [e]
      rfl
theorem lrE_w6 (C : Cf) (N : Nat → Nat) (S : St) {k : Nat} (hk0 : k < N 0) {x : Int32} {v : Int64} (h : v.toInt32 + 1 = x) : upd (lrE C N S) (7 * k + 6) x = lrE C N (u2 S 8 k v) := by
  subst h
  funext i
  show (if i = 7 * k + 6 then v.toInt32 + 1 else lrE C N S i) = _
  by_cases hi : i = 7 * k + 6
  · rw [if_pos hi, hi, lrE_6 _ _ _ hk0, u2_same]
  · rw [if_neg hi]
    by_cases hk : i / 7 = k
    · have hj : ¬ i % 7 = 6 := by omega
      unfold lrE
      by_cases h0 : i % 7 = 0
      · rw [if_pos h0, if_pos h0]
      rw [if_neg h0, if_neg h0]
      by_cases h1 : i % 7 = 1
      · rw [if_pos h1, if_pos h1]
      rw [if_neg h1, if_neg h1]
      by_cases h2 : i % 7 = 2
      · rw [if_pos h2, if_pos h2]
      rw [if_neg h2, if_neg h2]
      by_cases h3 : i % 7 = 3
      · rw [if_pos h3, if_pos h3]; rfl
      rw [if_neg h3, if_neg h3]
      by_cases h4 : i % 7 = 4
      · rw [if_pos h4, if_pos h4]; rfl
      rw [if_neg h4, if_neg h4]
      by_cases h5 : i % 7 = 5
      · rw [if_pos h5, if_pos h5]; rfl
      rw [if_neg h5, if_neg h5]
      exact absurd (by omega) hj
    · unfold lrE
      have e : u2 S 8 k v 8 (i / 7) = S 8 (i / 7) := u2_ne S 8 v hk
      simp only [e]
      rfl
theorem lrG_w3 (C : Cf) (S : St) (k : Nat) {x : Int32} {v : Int64} (h : v.toInt32 = x) : upd (lrG C S) (5 * k + 3) x = lrG C (u2 S 9 k v) := by
  subst h
  funext i
  show (if i = 5 * k + 3 then v.toInt32 else lrG C S i) = _
  by_cases hi : i = 5 * k + 3
  · rw [if_pos hi, hi, lrG_3, u2_same]
  · rw [if_neg hi]
    by_cases hk : i / 5 = k
    · have hj : ¬ i % 5 = 3 := by omega
      unfold lrG
      skip
      simp only [if_neg hj]; rfl
    · unfold lrG
      have e : u2 S 9 k v 9 (i / 5) = S 9 (i / 5) := u2_ne S 9 v hk
      simp only [e]
      rfl
theorem lrG_w4 (C : Cf) (S : St) (k : Nat) {x : Int32} {v : Int64} (h : v.toInt32 = x) : upd (lrG C S) (5 * k + 4) x = lrG C (u2 S 10 k v) := by
  subst h
  funext i
  show (if i = 5 * k + 4 then v.toInt32 else lrG C S i) = _
  by_cases hi : i = 5 * k + 4
  · rw [if_pos hi, hi, lrG_4, u2_same]
  · rw [if_neg hi]
    by_cases hk : i / 5 = k
    · have hj : ¬ i % 5 = 4 := by omega
      unfold lrG
      by_cases h0 : i % 5 = 0
      · rw [if_pos h0, if_pos h0]
      rw [if_neg h0, if_neg h0]
      by_cases h1 : i % 5 = 1
      · rw [if_pos h1, if_pos h1]
      rw [if_neg h1, if_neg h1]
      by_cases h2 : i % 5 = 2
      · rw [if_pos h2, if_pos h2]
      rw [if_neg h2, if_neg h2]
      by_cases h3 : i % 5 = 3
      · rw [if_pos h3, if_pos h3]; rfl
      rw [if_neg h3, if_neg h3]
      exact absurd (by omega) hj
    · unfold lrG
      have e : u2 S 10 k v 10 (i / 5) = S 10 (i / 5) := u2_ne S 10 v hk
      simp only [e]
      rfl
theorem lrA_w (S : St) (k : Nat) {n : Nat} (hn : n < 8) (v : Int64) : vp_updL (lrA S) (8 * k + n) v = lrA (u2 S 11 (10 * k + n) v) := by
  funext i
  show (if i = 8 * k + n then v else lrA S i) = _
  by_cases hi : i = 8 * k + n
  · rw [if_pos hi, hi, lrA_r _ _ hn, u2_same]
  · rw [if_neg hi]
    exact (u2_ne S 11 v (by omega)).symm
theorem lrK_w (Qk : Nat → Int64) {j : Nat} (hj : j < 60) {x : Int32} {v : Int64} (h : v.toInt32 = x) : upd (lrK Qk) j x = lrK (vp_updL Qk j v) := by
  subst h
  funext i
  show (if i = j then v.toInt32 else lrK Qk i) = _
  unfold lrK vp_updL
  by_cases hi : i = j
  · subst hi
    rw [if_pos rfl, if_pos hj, if_pos rfl]
  · rw [if_neg hi, if_neg hi]
theorem lrK_o (Qk : Nat → Int64) {j : Nat} (hj : ¬ j < 60) (v : Int64) : lrK (vp_updL Qk j v) = lrK Qk := by
  funext i
  unfold lrK vp_updL
  by_cases hi : i < 60
  · rw [if_pos hi, if_pos hi, if_neg (by omega)]
  · rw [if_neg hi, if_neg hi]
/-- what of a state the law's rows show -/
theorem lrE_o {C : Cf} {N : Nat → Nat} {S T : St} (h4 : T 4 = S 4) (h5 : T 5 = S 5) (h6 : T 6 = S 6) (h8 : T 8 = S 8) : lrE C N T = lrE C N S := by
  unfold lrE
  rw [h4, h5, h6, h8]
theorem lrG_o {C : Cf} {S T : St} (h9 : T 9 = S 9) (h10 : T 10 = S 10) : lrG C T = lrG C S := by
  unfold lrG
  rw [h9, h10]
