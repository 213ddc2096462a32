/-! THE STATE, and the worlds that hold it: S c i (what months change), C c i (what they don't), scratch rows X, Y, K, P -/
abbrev St : Type := Nat → Nat → Int64
abbrev Cf : Type := Nat → Nat → Int32
def u2 (S : St) (c i : Nat) (v : Int64) : St := fun c' => if c' = c then vp_updL (S c) i v else S c'
def c2 (C : Cf) (c i : Nat) (v : Int32) : Cf := fun c' => if c' = c then upd (C c) i v else C c'
theorem u2_same (S : St) (c i : Nat) (v : Int64) : u2 S c i v c i = v := by simp [u2, vp_updL]
theorem u2_ne (S : St) (c : Nat) {i j : Nat} (v : Int64) (h : ¬ j = i) : u2 S c i v c j = S c j := by simp [u2, vp_updL, h]
theorem u2_c (S : St) {c c' : Nat} (i : Nat) (v : Int64) (h : ¬ c' = c) : u2 S c i v c' = S c' := by simp [u2, h]
theorem u2_ap (S : St) (c i : Nat) (v : Int64) (c' j : Nat) : u2 S c i v c' j = if c' = c ∧ j = i then v else S c' j := by
  by_cases h : c' = c
  · subst h
    by_cases hj : j = i <;> simp [u2, vp_updL, hj]
  · simp [u2, h]
theorem u2_self (S : St) (c i : Nat) : u2 S c i (S c i) = S := by
  funext c' j
  rw [u2_ap]
  split
  · rename_i h; rw [h.1, h.2]
  · rfl
theorem u2_eqv {S : St} {c i : Nat} {v : Int64} (h : v = S c i) : u2 S c i v = S := by rw [h, u2_self]
theorem u2_twice (S : St) (c i : Nat) (v w : Int64) : u2 (u2 S c i v) c i w = u2 S c i w := by
  funext c' j
  simp only [u2_ap]
  split <;> simp_all
/-- updates of different rows, the lower row first -/
theorem u2_sort (S : St) {c c' : Nat} (i j : Nat) (v w : Int64) (h : c' < c) : u2 (u2 S c i v) c' j w = u2 (u2 S c' j w) c i v := by
  funext a b
  simp only [u2_ap]
  by_cases h1 : a = c <;> by_cases h2 : a = c' <;> simp_all
theorem u2_sortI (S : St) (c : Nat) {i j : Nat} (v w : Int64) (h : j < i) : u2 (u2 S c i v) c j w = u2 (u2 S c j w) c i v := by
  funext a b
  simp only [u2_ap]
  by_cases h1 : b = i <;> by_cases h2 : b = j <;> simp_all
theorem u2_swap (S : St) {c c' i j : Nat} (v w : Int64) (h : ¬ (c = c' ∧ i = j)) : u2 (u2 S c i v) c' j w = u2 (u2 S c' j w) c i v := by
  funext a b
  simp only [u2_ap]
  by_cases h1 : a = c' ∧ b = j
  · by_cases h2 : a = c ∧ b = i
    · exact absurd ⟨h2.1.symm.trans h1.1, h2.2.symm.trans h1.2⟩ h
    · rw [if_pos h1, if_neg h2, if_pos h1]
  · rw [if_neg h1]
    by_cases h2 : a = c ∧ b = i
    · rw [if_pos h2, if_pos h2]
    · rw [if_neg h2, if_neg h2, if_neg h1]
theorem c2_ap (C : Cf) (c i : Nat) (v : Int32) (c' j : Nat) : c2 C c i v c' j = if c' = c ∧ j = i then v else C c' j := by
  by_cases h : c' = c
  · subst h
    by_cases hj : j = i <;> simp [c2, upd, hj]
  · simp [c2, h]
/-- an int row of the class, where the state has longs -/
def i32 (f : Nat → Int64) : Nat → Int32 := fun j => (f j).toInt32
theorem i32_upd (f : Nat → Int64) (j : Nat) (x : Int32) : upd (i32 f) j x = i32 (vp_updL f j x.toInt64) := by
  funext k
  by_cases h : k = j
  · simp [upd, i32, vp_updL, h]
  · simp [upd, i32, vp_updL, h]
theorem i32_updV (f : Nat → Int64) (j : Nat) {x : Int32} {v : Int64} (h : v.toInt32 = x) : upd (i32 f) j x = i32 (vp_updL f j v) := by
  funext k
  by_cases hk : k = j
  · simp [upd, i32, vp_updL, hk, h]
  · simp [upd, i32, vp_updL, hk]
/-- the quakes' rows: month, block, size by turns -/
def qrow (Qk : Nat → Int64) (r : Nat) : Nat → Int32 := fun j => (Qk (3 * j + r)).toInt32
theorem qrow_upd (Qk : Nat → Int64) {r j : Nat} (hr : r < 3) {x : Int32} {v : Int64} (h : v.toInt32 = x) : upd (qrow Qk r) j x = qrow (vp_updL Qk (3 * j + r) v) r := by
  funext k
  by_cases hk : k = j
  · simp [upd, qrow, vp_updL, hk, h]
  · have : ¬ 3 * k = 3 * j := by omega
    simp [upd, qrow, vp_updL, hk, this]
theorem qrow_oth (Qk : Nat → Int64) {r r' j : Nat} (hr : r < 3) (hr' : r' < 3) (hne : ¬ r = r') (v : Int64) : qrow (vp_updL Qk (3 * j + r) v) r' = qrow Qk r' := by
  funext k
  have : ¬ 3 * k + r' = 3 * j + r := by omega
  simp [qrow, vp_updL, this]
/-- blocks and cracks -/
def wG (g : Nat → Nat) (cI cJ : ClassId) (C : Cf) (S X : St) : va_W := [(g 0, .inr (1, [.ref (g 1), .ref (g 2), .ref (g 3), .ref (g 4), .ref (g 5), .ref (g 6), .ref (g 7), .ref (g 8), .ref (g 9)])), (g 1, .inl (cJ, 12, .inr (.inl (S 0)))), (g 2, .inl (cJ, 12, .inr (.inl (S 1)))), (g 3, .inl (cJ, 12, .inr (.inl (S 2)))), (g 4, .inl (cJ, 12, .inr (.inl (S 3)))), (g 5, .inl (cI, 12, .inl (C 0))), (g 6, .inl (cI, 12, .inl (C 1))), (g 7, .inl (cJ, 12, .inr (.inl (X 0)))), (g 8, .inl (cJ, 12, .inr (.inl (X 1)))), (g 9, .inl (cJ, 12, .inr (.inl (X 2))))]
/-- wells; N 0 of them -/
def wW (g : Nat → Nat) (cI cJ cZ : ClassId) (C : Cf) (N : Nat → Nat) (S : St) : va_W := [(g 0, .inr (5, [.int (nI (N 0)), .ref (g 1), .ref (g 2), .ref (g 3), .ref (g 4), .ref (g 5), .ref (g 6), .ref (g 7), .ref (g 8)])), (g 1, .inl (cI, 10, .inl (C 2))), (g 2, .inl (cZ, 10, .inl (C 3))), (g 3, .inl (cI, 10, .inl (C 4))), (g 4, .inl (cI, 10, .inl (i32 (S 4)))), (g 5, .inl (cJ, 10, .inr (.inl (S 5)))), (g 6, .inl (cZ, 10, .inl (i32 (S 6)))), (g 7, .inl (cJ, 10, .inr (.inl (S 7)))), (g 8, .inl (cI, 10, .inl (i32 (S 8))))]
/-- uses; N 1 of them -/
def wU (g : Nat → Nat) (cI : ClassId) (C : Cf) (N : Nat → Nat) : va_W := [(g 0, .inr (4, [.int (nI (N 1)), .ref (g 1), .ref (g 2)])), (g 1, .inl (cI, 6, .inl (C 5))), (g 2, .inl (cI, 6, .inl (C 6)))]
/-- springs; N 2 of them -/
def wS (g : Nat → Nat) (cI cJ : ClassId) (C : Cf) (N : Nat → Nat) (S : St) : va_W := [(g 0, .inr (3, [.int (nI (N 2)), .ref (g 1), .ref (g 2), .ref (g 3), .ref (g 4), .ref (g 5), .ref (g 6)])), (g 1, .inl (cI, 4, .inl (C 7))), (g 2, .inl (cI, 4, .inl (C 8))), (g 3, .inl (cI, 4, .inl (C 9))), (g 4, .inl (cJ, 4, .inr (.inl (S 9)))), (g 5, .inl (cI, 4, .inl (i32 (S 10)))), (g 6, .inl (cJ, 40, .inr (.inl (S 11))))]
/-- quakes -/
def wQ (g : Nat → Nat) (cI : ClassId) (S : St) (Qk : Nat → Int64) : va_W := [(g 0, .inr (2, [.int (S 14 0).toInt32, .ref (g 1), .ref (g 2), .ref (g 3)])), (g 1, .inl (cI, 60, .inl (qrow Qk 0))), (g 2, .inl (cI, 60, .inl (qrow Qk 1))), (g 3, .inl (cI, 60, .inl (qrow Qk 2)))]
/-- a field whole: X 0 to X 2 the rows ahead of the flow, X 3 the brine's three numbers -/
def wF (f : Nat → Nat) (cI cJ cZ : ClassId) (C : Cf) (N : Nat → Nat) (S : St) (Qk : Nat → Int64) (X : St) : va_W := (f 0, .inr (0, [.int (S 13 0).toInt32, .int (C 10 0), .ref (f 1), .ref (f 11), .ref (f 20), .ref (f 23), .ref (f 30), .ref (f 34), .long (X 3 0), .long (X 3 1), .long (X 3 2)])) :: (wG (fun i => f (1 + i)) cI cJ C S X ++ (wW (fun i => f (11 + i)) cI cJ cZ C N S ++ (wU (fun i => f (20 + i)) cI C N ++ (wS (fun i => f (23 + i)) cI cJ C N S ++ (wQ (fun i => f (30 + i)) cI S Qk ++ [(f 34, .inl (cJ, 8, .inr (.inl (S 12))))])))))
/-- which row and place a place of the reference's row of numbers is -/
def fp (k : Nat) : Nat × Nat := if k < 12 then (0, k - 0) else if k < 24 then (1, k - 12) else if k < 36 then (2, k - 24) else if k < 48 then (3, k - 36) else if k < 58 then (4, k - 48) else if k < 68 then (5, k - 58) else if k < 78 then (6, k - 68) else if k < 88 then (7, k - 78) else if k < 98 then (8, k - 88) else if k < 102 then (9, k - 98) else if k < 106 then (10, k - 102) else if k < 146 then (11, k - 106) else if k < 154 then (12, k - 146) else if k < 155 then (13, k - 154) else if k < 156 then (14, k - 155) else (15, k - 156)
/-- the reference's row of numbers -/
def fl (S : St) (Qk : Nat → Int64) : Nat → Int64 := fun k => if (fp k).1 = 15 then Qk (fp k).2 else S (fp k).1 (fp k).2
theorem fp_0 {i : Nat} (h : i < 12) : fp (0 + i) = (0, i) := by
  unfold fp
  repeat (first | rw [if_neg (by omega)] | rw [if_pos (by omega)])
  exact congrArg (Prod.mk 0) (by omega)
theorem fpk_0 {k i : Nat} (h : fp k = (0, i)) : k = 0 + i := by
  unfold fp at h
  by_cases h0 : k < 12
  · rw [if_pos h0] at h
    obtain ⟨q1, q2⟩ := Prod.mk.inj h
    omega
  rw [if_neg h0] at h
  by_cases h1 : k < 24
  · rw [if_pos h1] at h
    obtain ⟨q1, q2⟩ := Prod.mk.inj h
    omega
  rw [if_neg h1] at h
  by_cases h2 : k < 36
  · rw [if_pos h2] at h
    obtain ⟨q1, q2⟩ := Prod.mk.inj h
    omega
  rw [if_neg h2] at h
  by_cases h3 : k < 48
  · rw [if_pos h3] at h
    obtain ⟨q1, q2⟩ := Prod.mk.inj h
    omega
  rw [if_neg h3] at h
  by_cases h4 : k < 58
  · rw [if_pos h4] at h
    obtain ⟨q1, q2⟩ := Prod.mk.inj h
    omega
  rw [if_neg h4] at h
  by_cases h5 : k < 68
  · rw [if_pos h5] at h
    obtain ⟨q1, q2⟩ := Prod.mk.inj h
    omega
  rw [if_neg h5] at h
  by_cases h6 : k < 78
  · rw [if_pos h6] at h
    obtain ⟨q1, q2⟩ := Prod.mk.inj h
    omega
  rw [if_neg h6] at h
  by_cases h7 : k < 88
  · rw [if_pos h7] at h
    obtain ⟨q1, q2⟩ := Prod.mk.inj h
    omega
  rw [if_neg h7] at h
  by_cases h8 : k < 98
  · rw [if_pos h8] at h
    obtain ⟨q1, q2⟩ := Prod.mk.inj h
    omega
  rw [if_neg h8] at h
  by_cases h9 : k < 102
  · rw [if_pos h9] at h
    obtain ⟨q1, q2⟩ := Prod.mk.inj h
    omega
  rw [if_neg h9] at h
  by_cases h10 : k < 106
  · rw [if_pos h10] at h
    obtain ⟨q1, q2⟩ := Prod.mk.inj h
    omega
  rw [if_neg h10] at h
  by_cases h11 : k < 146
  · rw [if_pos h11] at h
    obtain ⟨q1, q2⟩ := Prod.mk.inj h
    omega
  rw [if_neg h11] at h
  by_cases h12 : k < 154
  · rw [if_pos h12] at h
    obtain ⟨q1, q2⟩ := Prod.mk.inj h
    omega
  rw [if_neg h12] at h
  by_cases h13 : k < 155
  · rw [if_pos h13] at h
    obtain ⟨q1, q2⟩ := Prod.mk.inj h
    omega
  rw [if_neg h13] at h
  by_cases h14 : k < 156
  · rw [if_pos h14] at h
    obtain ⟨q1, q2⟩ := Prod.mk.inj h
    omega
  rw [if_neg h14] at h
  obtain ⟨q1, q2⟩ := Prod.mk.inj h
  omega
theorem fp_1 {i : Nat} (h : i < 12) : fp (12 + i) = (1, i) := by
  unfold fp
  repeat (first | rw [if_neg (by omega)] | rw [if_pos (by omega)])
  exact congrArg (Prod.mk 1) (by omega)
theorem fpk_1 {k i : Nat} (h : fp k = (1, i)) : k = 12 + i := by
  unfold fp at h
  by_cases h0 : k < 12
  · rw [if_pos h0] at h
    obtain ⟨q1, q2⟩ := Prod.mk.inj h
    omega
  rw [if_neg h0] at h
  by_cases h1 : k < 24
  · rw [if_pos h1] at h
    obtain ⟨q1, q2⟩ := Prod.mk.inj h
    omega
  rw [if_neg h1] at h
  by_cases h2 : k < 36
  · rw [if_pos h2] at h
    obtain ⟨q1, q2⟩ := Prod.mk.inj h
    omega
  rw [if_neg h2] at h
  by_cases h3 : k < 48
  · rw [if_pos h3] at h
    obtain ⟨q1, q2⟩ := Prod.mk.inj h
    omega
  rw [if_neg h3] at h
  by_cases h4 : k < 58
  · rw [if_pos h4] at h
    obtain ⟨q1, q2⟩ := Prod.mk.inj h
    omega
  rw [if_neg h4] at h
  by_cases h5 : k < 68
  · rw [if_pos h5] at h
    obtain ⟨q1, q2⟩ := Prod.mk.inj h
    omega
  rw [if_neg h5] at h
  by_cases h6 : k < 78
  · rw [if_pos h6] at h
    obtain ⟨q1, q2⟩ := Prod.mk.inj h
    omega
  rw [if_neg h6] at h
  by_cases h7 : k < 88
  · rw [if_pos h7] at h
    obtain ⟨q1, q2⟩ := Prod.mk.inj h
    omega
  rw [if_neg h7] at h
  by_cases h8 : k < 98
  · rw [if_pos h8] at h
    obtain ⟨q1, q2⟩ := Prod.mk.inj h
    omega
  rw [if_neg h8] at h
  by_cases h9 : k < 102
  · rw [if_pos h9] at h
    obtain ⟨q1, q2⟩ := Prod.mk.inj h
    omega
  rw [if_neg h9] at h
  by_cases h10 : k < 106
  · rw [if_pos h10] at h
    obtain ⟨q1, q2⟩ := Prod.mk.inj h
    omega
  rw [if_neg h10] at h
  by_cases h11 : k < 146
  · rw [if_pos h11] at h
    obtain ⟨q1, q2⟩ := Prod.mk.inj h
    omega
  rw [if_neg h11] at h
  by_cases h12 : k < 154
  · rw [if_pos h12] at h
    obtain ⟨q1, q2⟩ := Prod.mk.inj h
    omega
  rw [if_neg h12] at h
  by_cases h13 : k < 155
  · rw [if_pos h13] at h
    obtain ⟨q1, q2⟩ := Prod.mk.inj h
    omega
  rw [if_neg h13] at h
  by_cases h14 : k < 156
  · rw [if_pos h14] at h
    obtain ⟨q1, q2⟩ := Prod.mk.inj h
    omega
  rw [if_neg h14] at h
  obtain ⟨q1, q2⟩ := Prod.mk.inj h
  omega
theorem fp_2 {i : Nat} (h : i < 12) : fp (24 + i) = (2, i) := by
  unfold fp
  repeat (first | rw [if_neg (by omega)] | rw [if_pos (by omega)])
  exact congrArg (Prod.mk 2) (by omega)
theorem fpk_2 {k i : Nat} (h : fp k = (2, i)) : k = 24 + i := by
  unfold fp at h
  by_cases h0 : k < 12
  · rw [if_pos h0] at h
    obtain ⟨q1, q2⟩ := Prod.mk.inj h
    omega
  rw [if_neg h0] at h
  by_cases h1 : k < 24
  · rw [if_pos h1] at h
    obtain ⟨q1, q2⟩ := Prod.mk.inj h
    omega
  rw [if_neg h1] at h
  by_cases h2 : k < 36
  · rw [if_pos h2] at h
    obtain ⟨q1, q2⟩ := Prod.mk.inj h
    omega
  rw [if_neg h2] at h
  by_cases h3 : k < 48
  · rw [if_pos h3] at h
    obtain ⟨q1, q2⟩ := Prod.mk.inj h
    omega
  rw [if_neg h3] at h
  by_cases h4 : k < 58
  · rw [if_pos h4] at h
    obtain ⟨q1, q2⟩ := Prod.mk.inj h
    omega
  rw [if_neg h4] at h
  by_cases h5 : k < 68
  · rw [if_pos h5] at h
    obtain ⟨q1, q2⟩ := Prod.mk.inj h
    omega
  rw [if_neg h5] at h
  by_cases h6 : k < 78
  · rw [if_pos h6] at h
    obtain ⟨q1, q2⟩ := Prod.mk.inj h
    omega
  rw [if_neg h6] at h
  by_cases h7 : k < 88
  · rw [if_pos h7] at h
    obtain ⟨q1, q2⟩ := Prod.mk.inj h
    omega
  rw [if_neg h7] at h
  by_cases h8 : k < 98
  · rw [if_pos h8] at h
    obtain ⟨q1, q2⟩ := Prod.mk.inj h
    omega
  rw [if_neg h8] at h
  by_cases h9 : k < 102
  · rw [if_pos h9] at h
    obtain ⟨q1, q2⟩ := Prod.mk.inj h
    omega
  rw [if_neg h9] at h
  by_cases h10 : k < 106
  · rw [if_pos h10] at h
    obtain ⟨q1, q2⟩ := Prod.mk.inj h
    omega
  rw [if_neg h10] at h
  by_cases h11 : k < 146
  · rw [if_pos h11] at h
    obtain ⟨q1, q2⟩ := Prod.mk.inj h
    omega
  rw [if_neg h11] at h
  by_cases h12 : k < 154
  · rw [if_pos h12] at h
    obtain ⟨q1, q2⟩ := Prod.mk.inj h
    omega
  rw [if_neg h12] at h
  by_cases h13 : k < 155
  · rw [if_pos h13] at h
    obtain ⟨q1, q2⟩ := Prod.mk.inj h
    omega
  rw [if_neg h13] at h
  by_cases h14 : k < 156
  · rw [if_pos h14] at h
    obtain ⟨q1, q2⟩ := Prod.mk.inj h
    omega
  rw [if_neg h14] at h
  obtain ⟨q1, q2⟩ := Prod.mk.inj h
  omega
theorem fp_3 {i : Nat} (h : i < 12) : fp (36 + i) = (3, i) := by
  unfold fp
  repeat (first | rw [if_neg (by omega)] | rw [if_pos (by omega)])
  exact congrArg (Prod.mk 3) (by omega)
theorem fpk_3 {k i : Nat} (h : fp k = (3, i)) : k = 36 + i := by
  unfold fp at h
  by_cases h0 : k < 12
  · rw [if_pos h0] at h
    obtain ⟨q1, q2⟩ := Prod.mk.inj h
    omega
  rw [if_neg h0] at h
  by_cases h1 : k < 24
  · rw [if_pos h1] at h
    obtain ⟨q1, q2⟩ := Prod.mk.inj h
    omega
  rw [if_neg h1] at h
  by_cases h2 : k < 36
  · rw [if_pos h2] at h
    obtain ⟨q1, q2⟩ := Prod.mk.inj h
    omega
  rw [if_neg h2] at h
  by_cases h3 : k < 48
  · rw [if_pos h3] at h
    obtain ⟨q1, q2⟩ := Prod.mk.inj h
    omega
  rw [if_neg h3] at h
  by_cases h4 : k < 58
  · rw [if_pos h4] at h
    obtain ⟨q1, q2⟩ := Prod.mk.inj h
    omega
  rw [if_neg h4] at h
  by_cases h5 : k < 68
  · rw [if_pos h5] at h
    obtain ⟨q1, q2⟩ := Prod.mk.inj h
    omega
  rw [if_neg h5] at h
  by_cases h6 : k < 78
  · rw [if_pos h6] at h
    obtain ⟨q1, q2⟩ := Prod.mk.inj h
    omega
  rw [if_neg h6] at h
  by_cases h7 : k < 88
  · rw [if_pos h7] at h
    obtain ⟨q1, q2⟩ := Prod.mk.inj h
    omega
  rw [if_neg h7] at h
  by_cases h8 : k < 98
  · rw [if_pos h8] at h
    obtain ⟨q1, q2⟩ := Prod.mk.inj h
    omega
  rw [if_neg h8] at h
  by_cases h9 : k < 102
  · rw [if_pos h9] at h
    obtain ⟨q1, q2⟩ := Prod.mk.inj h
    omega
  rw [if_neg h9] at h
  by_cases h10 : k < 106
  · rw [if_pos h10] at h
    obtain ⟨q1, q2⟩ := Prod.mk.inj h
    omega
  rw [if_neg h10] at h
  by_cases h11 : k < 146
  · rw [if_pos h11] at h
    obtain ⟨q1, q2⟩ := Prod.mk.inj h
    omega
  rw [if_neg h11] at h
  by_cases h12 : k < 154
  · rw [if_pos h12] at h
    obtain ⟨q1, q2⟩ := Prod.mk.inj h
    omega
  rw [if_neg h12] at h
  by_cases h13 : k < 155
  · rw [if_pos h13] at h
    obtain ⟨q1, q2⟩ := Prod.mk.inj h
    omega
  rw [if_neg h13] at h
  by_cases h14 : k < 156
  · rw [if_pos h14] at h
    obtain ⟨q1, q2⟩ := Prod.mk.inj h
    omega
  rw [if_neg h14] at h
  obtain ⟨q1, q2⟩ := Prod.mk.inj h
  omega
theorem fp_4 {i : Nat} (h : i < 10) : fp (48 + i) = (4, i) := by
  unfold fp
  repeat (first | rw [if_neg (by omega)] | rw [if_pos (by omega)])
  exact congrArg (Prod.mk 4) (by omega)
theorem fpk_4 {k i : Nat} (h : fp k = (4, i)) : k = 48 + i := by
  unfold fp at h
  by_cases h0 : k < 12
  · rw [if_pos h0] at h
    obtain ⟨q1, q2⟩ := Prod.mk.inj h
    omega
  rw [if_neg h0] at h
  by_cases h1 : k < 24
  · rw [if_pos h1] at h
    obtain ⟨q1, q2⟩ := Prod.mk.inj h
    omega
  rw [if_neg h1] at h
  by_cases h2 : k < 36
  · rw [if_pos h2] at h
    obtain ⟨q1, q2⟩ := Prod.mk.inj h
    omega
  rw [if_neg h2] at h
  by_cases h3 : k < 48
  · rw [if_pos h3] at h
    obtain ⟨q1, q2⟩ := Prod.mk.inj h
    omega
  rw [if_neg h3] at h
  by_cases h4 : k < 58
  · rw [if_pos h4] at h
    obtain ⟨q1, q2⟩ := Prod.mk.inj h
    omega
  rw [if_neg h4] at h
  by_cases h5 : k < 68
  · rw [if_pos h5] at h
    obtain ⟨q1, q2⟩ := Prod.mk.inj h
    omega
  rw [if_neg h5] at h
  by_cases h6 : k < 78
  · rw [if_pos h6] at h
    obtain ⟨q1, q2⟩ := Prod.mk.inj h
    omega
  rw [if_neg h6] at h
  by_cases h7 : k < 88
  · rw [if_pos h7] at h
    obtain ⟨q1, q2⟩ := Prod.mk.inj h
    omega
  rw [if_neg h7] at h
  by_cases h8 : k < 98
  · rw [if_pos h8] at h
    obtain ⟨q1, q2⟩ := Prod.mk.inj h
    omega
  rw [if_neg h8] at h
  by_cases h9 : k < 102
  · rw [if_pos h9] at h
    obtain ⟨q1, q2⟩ := Prod.mk.inj h
    omega
  rw [if_neg h9] at h
  by_cases h10 : k < 106
  · rw [if_pos h10] at h
    obtain ⟨q1, q2⟩ := Prod.mk.inj h
    omega
  rw [if_neg h10] at h
  by_cases h11 : k < 146
  · rw [if_pos h11] at h
    obtain ⟨q1, q2⟩ := Prod.mk.inj h
    omega
  rw [if_neg h11] at h
  by_cases h12 : k < 154
  · rw [if_pos h12] at h
    obtain ⟨q1, q2⟩ := Prod.mk.inj h
    omega
  rw [if_neg h12] at h
  by_cases h13 : k < 155
  · rw [if_pos h13] at h
    obtain ⟨q1, q2⟩ := Prod.mk.inj h
    omega
  rw [if_neg h13] at h
  by_cases h14 : k < 156
  · rw [if_pos h14] at h
    obtain ⟨q1, q2⟩ := Prod.mk.inj h
    omega
  rw [if_neg h14] at h
  obtain ⟨q1, q2⟩ := Prod.mk.inj h
  omega
theorem fp_5 {i : Nat} (h : i < 10) : fp (58 + i) = (5, i) := by
  unfold fp
  repeat (first | rw [if_neg (by omega)] | rw [if_pos (by omega)])
  exact congrArg (Prod.mk 5) (by omega)
theorem fpk_5 {k i : Nat} (h : fp k = (5, i)) : k = 58 + i := by
  unfold fp at h
  by_cases h0 : k < 12
  · rw [if_pos h0] at h
    obtain ⟨q1, q2⟩ := Prod.mk.inj h
    omega
  rw [if_neg h0] at h
  by_cases h1 : k < 24
  · rw [if_pos h1] at h
    obtain ⟨q1, q2⟩ := Prod.mk.inj h
    omega
  rw [if_neg h1] at h
  by_cases h2 : k < 36
  · rw [if_pos h2] at h
    obtain ⟨q1, q2⟩ := Prod.mk.inj h
    omega
  rw [if_neg h2] at h
  by_cases h3 : k < 48
  · rw [if_pos h3] at h
    obtain ⟨q1, q2⟩ := Prod.mk.inj h
    omega
  rw [if_neg h3] at h
  by_cases h4 : k < 58
  · rw [if_pos h4] at h
    obtain ⟨q1, q2⟩ := Prod.mk.inj h
    omega
  rw [if_neg h4] at h
  by_cases h5 : k < 68
  · rw [if_pos h5] at h
    obtain ⟨q1, q2⟩ := Prod.mk.inj h
    omega
  rw [if_neg h5] at h
  by_cases h6 : k < 78
  · rw [if_pos h6] at h
    obtain ⟨q1, q2⟩ := Prod.mk.inj h
    omega
  rw [if_neg h6] at h
  by_cases h7 : k < 88
  · rw [if_pos h7] at h
    obtain ⟨q1, q2⟩ := Prod.mk.inj h
    omega
  rw [if_neg h7] at h
  by_cases h8 : k < 98
  · rw [if_pos h8] at h
    obtain ⟨q1, q2⟩ := Prod.mk.inj h
    omega
  rw [if_neg h8] at h
  by_cases h9 : k < 102
  · rw [if_pos h9] at h
    obtain ⟨q1, q2⟩ := Prod.mk.inj h
    omega
  rw [if_neg h9] at h
  by_cases h10 : k < 106
  · rw [if_pos h10] at h
    obtain ⟨q1, q2⟩ := Prod.mk.inj h
    omega
  rw [if_neg h10] at h
  by_cases h11 : k < 146
  · rw [if_pos h11] at h
    obtain ⟨q1, q2⟩ := Prod.mk.inj h
    omega
  rw [if_neg h11] at h
  by_cases h12 : k < 154
  · rw [if_pos h12] at h
    obtain ⟨q1, q2⟩ := Prod.mk.inj h
    omega
  rw [if_neg h12] at h
  by_cases h13 : k < 155
  · rw [if_pos h13] at h
    obtain ⟨q1, q2⟩ := Prod.mk.inj h
    omega
  rw [if_neg h13] at h
  by_cases h14 : k < 156
  · rw [if_pos h14] at h
    obtain ⟨q1, q2⟩ := Prod.mk.inj h
    omega
  rw [if_neg h14] at h
  obtain ⟨q1, q2⟩ := Prod.mk.inj h
  omega
theorem fp_6 {i : Nat} (h : i < 10) : fp (68 + i) = (6, i) := by
  unfold fp
  repeat (first | rw [if_neg (by omega)] | rw [if_pos (by omega)])
  exact congrArg (Prod.mk 6) (by omega)
theorem fpk_6 {k i : Nat} (h : fp k = (6, i)) : k = 68 + i := by
  unfold fp at h
  by_cases h0 : k < 12
  · rw [if_pos h0] at h
    obtain ⟨q1, q2⟩ := Prod.mk.inj h
    omega
  rw [if_neg h0] at h
  by_cases h1 : k < 24
  · rw [if_pos h1] at h
    obtain ⟨q1, q2⟩ := Prod.mk.inj h
    omega
  rw [if_neg h1] at h
  by_cases h2 : k < 36
  · rw [if_pos h2] at h
    obtain ⟨q1, q2⟩ := Prod.mk.inj h
    omega
  rw [if_neg h2] at h
  by_cases h3 : k < 48
  · rw [if_pos h3] at h
    obtain ⟨q1, q2⟩ := Prod.mk.inj h
    omega
  rw [if_neg h3] at h
  by_cases h4 : k < 58
  · rw [if_pos h4] at h
    obtain ⟨q1, q2⟩ := Prod.mk.inj h
    omega
  rw [if_neg h4] at h
  by_cases h5 : k < 68
  · rw [if_pos h5] at h
    obtain ⟨q1, q2⟩ := Prod.mk.inj h
    omega
  rw [if_neg h5] at h
  by_cases h6 : k < 78
  · rw [if_pos h6] at h
    obtain ⟨q1, q2⟩ := Prod.mk.inj h
    omega
  rw [if_neg h6] at h
  by_cases h7 : k < 88
  · rw [if_pos h7] at h
    obtain ⟨q1, q2⟩ := Prod.mk.inj h
    omega
  rw [if_neg h7] at h
  by_cases h8 : k < 98
  · rw [if_pos h8] at h
    obtain ⟨q1, q2⟩ := Prod.mk.inj h
    omega
  rw [if_neg h8] at h
  by_cases h9 : k < 102
  · rw [if_pos h9] at h
    obtain ⟨q1, q2⟩ := Prod.mk.inj h
    omega
  rw [if_neg h9] at h
  by_cases h10 : k < 106
  · rw [if_pos h10] at h
    obtain ⟨q1, q2⟩ := Prod.mk.inj h
    omega
  rw [if_neg h10] at h
  by_cases h11 : k < 146
  · rw [if_pos h11] at h
    obtain ⟨q1, q2⟩ := Prod.mk.inj h
    omega
  rw [if_neg h11] at h
  by_cases h12 : k < 154
  · rw [if_pos h12] at h
    obtain ⟨q1, q2⟩ := Prod.mk.inj h
    omega
  rw [if_neg h12] at h
  by_cases h13 : k < 155
  · rw [if_pos h13] at h
    obtain ⟨q1, q2⟩ := Prod.mk.inj h
    omega
  rw [if_neg h13] at h
  by_cases h14 : k < 156
  · rw [if_pos h14] at h
    obtain ⟨q1, q2⟩ := Prod.mk.inj h
    omega
  rw [if_neg h14] at h
  obtain ⟨q1, q2⟩ := Prod.mk.inj h
  omega
theorem fp_7 {i : Nat} (h : i < 10) : fp (78 + i) = (7, i) := by
  unfold fp
  repeat (first | rw [if_neg (by omega)] | rw [if_pos (by omega)])
  exact congrArg (Prod.mk 7) (by omega)
theorem fpk_7 {k i : Nat} (h : fp k = (7, i)) : k = 78 + i := by
  unfold fp at h
  by_cases h0 : k < 12
  · rw [if_pos h0] at h
    obtain ⟨q1, q2⟩ := Prod.mk.inj h
    omega
  rw [if_neg h0] at h
  by_cases h1 : k < 24
  · rw [if_pos h1] at h
    obtain ⟨q1, q2⟩ := Prod.mk.inj h
    omega
  rw [if_neg h1] at h
  by_cases h2 : k < 36
  · rw [if_pos h2] at h
    obtain ⟨q1, q2⟩ := Prod.mk.inj h
    omega
  rw [if_neg h2] at h
  by_cases h3 : k < 48
  · rw [if_pos h3] at h
    obtain ⟨q1, q2⟩ := Prod.mk.inj h
    omega
  rw [if_neg h3] at h
  by_cases h4 : k < 58
  · rw [if_pos h4] at h
    obtain ⟨q1, q2⟩ := Prod.mk.inj h
    omega
  rw [if_neg h4] at h
  by_cases h5 : k < 68
  · rw [if_pos h5] at h
    obtain ⟨q1, q2⟩ := Prod.mk.inj h
    omega
  rw [if_neg h5] at h
  by_cases h6 : k < 78
  · rw [if_pos h6] at h
    obtain ⟨q1, q2⟩ := Prod.mk.inj h
    omega
  rw [if_neg h6] at h
  by_cases h7 : k < 88
  · rw [if_pos h7] at h
    obtain ⟨q1, q2⟩ := Prod.mk.inj h
    omega
  rw [if_neg h7] at h
  by_cases h8 : k < 98
  · rw [if_pos h8] at h
    obtain ⟨q1, q2⟩ := Prod.mk.inj h
    omega
  rw [if_neg h8] at h
  by_cases h9 : k < 102
  · rw [if_pos h9] at h
    obtain ⟨q1, q2⟩ := Prod.mk.inj h
    omega
  rw [if_neg h9] at h
  by_cases h10 : k < 106
  · rw [if_pos h10] at h
    obtain ⟨q1, q2⟩ := Prod.mk.inj h
    omega
  rw [if_neg h10] at h
  by_cases h11 : k < 146
  · rw [if_pos h11] at h
    obtain ⟨q1, q2⟩ := Prod.mk.inj h
    omega
  rw [if_neg h11] at h
  by_cases h12 : k < 154
  · rw [if_pos h12] at h
    obtain ⟨q1, q2⟩ := Prod.mk.inj h
    omega
  rw [if_neg h12] at h
  by_cases h13 : k < 155
  · rw [if_pos h13] at h
    obtain ⟨q1, q2⟩ := Prod.mk.inj h
    omega
  rw [if_neg h13] at h
  by_cases h14 : k < 156
  · rw [if_pos h14] at h
    obtain ⟨q1, q2⟩ := Prod.mk.inj h
    omega
  rw [if_neg h14] at h
  obtain ⟨q1, q2⟩ := Prod.mk.inj h
  omega
theorem fp_8 {i : Nat} (h : i < 10) : fp (88 + i) = (8, i) := by
  unfold fp
  repeat (first | rw [if_neg (by omega)] | rw [if_pos (by omega)])
  exact congrArg (Prod.mk 8) (by omega)
theorem fpk_8 {k i : Nat} (h : fp k = (8, i)) : k = 88 + i := by
  unfold fp at h
  by_cases h0 : k < 12
  · rw [if_pos h0] at h
    obtain ⟨q1, q2⟩ := Prod.mk.inj h
    omega
  rw [if_neg h0] at h
  by_cases h1 : k < 24
  · rw [if_pos h1] at h
    obtain ⟨q1, q2⟩ := Prod.mk.inj h
    omega
  rw [if_neg h1] at h
  by_cases h2 : k < 36
  · rw [if_pos h2] at h
    obtain ⟨q1, q2⟩ := Prod.mk.inj h
    omega
  rw [if_neg h2] at h
  by_cases h3 : k < 48
  · rw [if_pos h3] at h
    obtain ⟨q1, q2⟩ := Prod.mk.inj h
    omega
  rw [if_neg h3] at h
  by_cases h4 : k < 58
  · rw [if_pos h4] at h
    obtain ⟨q1, q2⟩ := Prod.mk.inj h
    omega
  rw [if_neg h4] at h
  by_cases h5 : k < 68
  · rw [if_pos h5] at h
    obtain ⟨q1, q2⟩ := Prod.mk.inj h
    omega
  rw [if_neg h5] at h
  by_cases h6 : k < 78
  · rw [if_pos h6] at h
    obtain ⟨q1, q2⟩ := Prod.mk.inj h
    omega
  rw [if_neg h6] at h
  by_cases h7 : k < 88
  · rw [if_pos h7] at h
    obtain ⟨q1, q2⟩ := Prod.mk.inj h
    omega
  rw [if_neg h7] at h
  by_cases h8 : k < 98
  · rw [if_pos h8] at h
    obtain ⟨q1, q2⟩ := Prod.mk.inj h
    omega
  rw [if_neg h8] at h
  by_cases h9 : k < 102
  · rw [if_pos h9] at h
    obtain ⟨q1, q2⟩ := Prod.mk.inj h
    omega
  rw [if_neg h9] at h
  by_cases h10 : k < 106
  · rw [if_pos h10] at h
    obtain ⟨q1, q2⟩ := Prod.mk.inj h
    omega
  rw [if_neg h10] at h
  by_cases h11 : k < 146
  · rw [if_pos h11] at h
    obtain ⟨q1, q2⟩ := Prod.mk.inj h
    omega
  rw [if_neg h11] at h
  by_cases h12 : k < 154
  · rw [if_pos h12] at h
    obtain ⟨q1, q2⟩ := Prod.mk.inj h
    omega
  rw [if_neg h12] at h
  by_cases h13 : k < 155
  · rw [if_pos h13] at h
    obtain ⟨q1, q2⟩ := Prod.mk.inj h
    omega
  rw [if_neg h13] at h
  by_cases h14 : k < 156
  · rw [if_pos h14] at h
    obtain ⟨q1, q2⟩ := Prod.mk.inj h
    omega
  rw [if_neg h14] at h
  obtain ⟨q1, q2⟩ := Prod.mk.inj h
  omega
theorem fp_9 {i : Nat} (h : i < 4) : fp (98 + i) = (9, i) := by
  unfold fp
  repeat (first | rw [if_neg (by omega)] | rw [if_pos (by omega)])
  exact congrArg (Prod.mk 9) (by omega)
theorem fpk_9 {k i : Nat} (h : fp k = (9, i)) : k = 98 + i := by
  unfold fp at h
  by_cases h0 : k < 12
  · rw [if_pos h0] at h
    obtain ⟨q1, q2⟩ := Prod.mk.inj h
    omega
  rw [if_neg h0] at h
  by_cases h1 : k < 24
  · rw [if_pos h1] at h
    obtain ⟨q1, q2⟩ := Prod.mk.inj h
    omega
  rw [if_neg h1] at h
  by_cases h2 : k < 36
  · rw [if_pos h2] at h
    obtain ⟨q1, q2⟩ := Prod.mk.inj h
    omega
  rw [if_neg h2] at h
  by_cases h3 : k < 48
  · rw [if_pos h3] at h
    obtain ⟨q1, q2⟩ := Prod.mk.inj h
    omega
  rw [if_neg h3] at h
  by_cases h4 : k < 58
  · rw [if_pos h4] at h
    obtain ⟨q1, q2⟩ := Prod.mk.inj h
    omega
  rw [if_neg h4] at h
  by_cases h5 : k < 68
  · rw [if_pos h5] at h
    obtain ⟨q1, q2⟩ := Prod.mk.inj h
    omega
  rw [if_neg h5] at h
  by_cases h6 : k < 78
  · rw [if_pos h6] at h
    obtain ⟨q1, q2⟩ := Prod.mk.inj h
    omega
  rw [if_neg h6] at h
  by_cases h7 : k < 88
  · rw [if_pos h7] at h
    obtain ⟨q1, q2⟩ := Prod.mk.inj h
    omega
  rw [if_neg h7] at h
  by_cases h8 : k < 98
  · rw [if_pos h8] at h
    obtain ⟨q1, q2⟩ := Prod.mk.inj h
    omega
  rw [if_neg h8] at h
  by_cases h9 : k < 102
  · rw [if_pos h9] at h
    obtain ⟨q1, q2⟩ := Prod.mk.inj h
    omega
  rw [if_neg h9] at h
  by_cases h10 : k < 106
  · rw [if_pos h10] at h
    obtain ⟨q1, q2⟩ := Prod.mk.inj h
    omega
  rw [if_neg h10] at h
  by_cases h11 : k < 146
  · rw [if_pos h11] at h
    obtain ⟨q1, q2⟩ := Prod.mk.inj h
    omega
  rw [if_neg h11] at h
  by_cases h12 : k < 154
  · rw [if_pos h12] at h
    obtain ⟨q1, q2⟩ := Prod.mk.inj h
    omega
  rw [if_neg h12] at h
  by_cases h13 : k < 155
  · rw [if_pos h13] at h
    obtain ⟨q1, q2⟩ := Prod.mk.inj h
    omega
  rw [if_neg h13] at h
  by_cases h14 : k < 156
  · rw [if_pos h14] at h
    obtain ⟨q1, q2⟩ := Prod.mk.inj h
    omega
  rw [if_neg h14] at h
  obtain ⟨q1, q2⟩ := Prod.mk.inj h
  omega
theorem fp_10 {i : Nat} (h : i < 4) : fp (102 + i) = (10, i) := by
  unfold fp
  repeat (first | rw [if_neg (by omega)] | rw [if_pos (by omega)])
  exact congrArg (Prod.mk 10) (by omega)
theorem fpk_10 {k i : Nat} (h : fp k = (10, i)) : k = 102 + i := by
  unfold fp at h
  by_cases h0 : k < 12
  · rw [if_pos h0] at h
    obtain ⟨q1, q2⟩ := Prod.mk.inj h
    omega
  rw [if_neg h0] at h
  by_cases h1 : k < 24
  · rw [if_pos h1] at h
    obtain ⟨q1, q2⟩ := Prod.mk.inj h
    omega
  rw [if_neg h1] at h
  by_cases h2 : k < 36
  · rw [if_pos h2] at h
    obtain ⟨q1, q2⟩ := Prod.mk.inj h
    omega
  rw [if_neg h2] at h
  by_cases h3 : k < 48
  · rw [if_pos h3] at h
    obtain ⟨q1, q2⟩ := Prod.mk.inj h
    omega
  rw [if_neg h3] at h
  by_cases h4 : k < 58
  · rw [if_pos h4] at h
    obtain ⟨q1, q2⟩ := Prod.mk.inj h
    omega
  rw [if_neg h4] at h
  by_cases h5 : k < 68
  · rw [if_pos h5] at h
    obtain ⟨q1, q2⟩ := Prod.mk.inj h
    omega
  rw [if_neg h5] at h
  by_cases h6 : k < 78
  · rw [if_pos h6] at h
    obtain ⟨q1, q2⟩ := Prod.mk.inj h
    omega
  rw [if_neg h6] at h
  by_cases h7 : k < 88
  · rw [if_pos h7] at h
    obtain ⟨q1, q2⟩ := Prod.mk.inj h
    omega
  rw [if_neg h7] at h
  by_cases h8 : k < 98
  · rw [if_pos h8] at h
    obtain ⟨q1, q2⟩ := Prod.mk.inj h
    omega
  rw [if_neg h8] at h
  by_cases h9 : k < 102
  · rw [if_pos h9] at h
    obtain ⟨q1, q2⟩ := Prod.mk.inj h
    omega
  rw [if_neg h9] at h
  by_cases h10 : k < 106
  · rw [if_pos h10] at h
    obtain ⟨q1, q2⟩ := Prod.mk.inj h
    omega
  rw [if_neg h10] at h
  by_cases h11 : k < 146
  · rw [if_pos h11] at h
    obtain ⟨q1, q2⟩ := Prod.mk.inj h
    omega
  rw [if_neg h11] at h
  by_cases h12 : k < 154
  · rw [if_pos h12] at h
    obtain ⟨q1, q2⟩ := Prod.mk.inj h
    omega
  rw [if_neg h12] at h
  by_cases h13 : k < 155
  · rw [if_pos h13] at h
    obtain ⟨q1, q2⟩ := Prod.mk.inj h
    omega
  rw [if_neg h13] at h
  by_cases h14 : k < 156
  · rw [if_pos h14] at h
    obtain ⟨q1, q2⟩ := Prod.mk.inj h
    omega
  rw [if_neg h14] at h
  obtain ⟨q1, q2⟩ := Prod.mk.inj h
  omega
theorem fp_11 {i : Nat} (h : i < 40) : fp (106 + i) = (11, i) := by
  unfold fp
  repeat (first | rw [if_neg (by omega)] | rw [if_pos (by omega)])
  exact congrArg (Prod.mk 11) (by omega)
theorem fpk_11 {k i : Nat} (h : fp k = (11, i)) : k = 106 + i := by
  unfold fp at h
  by_cases h0 : k < 12
  · rw [if_pos h0] at h
    obtain ⟨q1, q2⟩ := Prod.mk.inj h
    omega
  rw [if_neg h0] at h
  by_cases h1 : k < 24
  · rw [if_pos h1] at h
    obtain ⟨q1, q2⟩ := Prod.mk.inj h
    omega
  rw [if_neg h1] at h
  by_cases h2 : k < 36
  · rw [if_pos h2] at h
    obtain ⟨q1, q2⟩ := Prod.mk.inj h
    omega
  rw [if_neg h2] at h
  by_cases h3 : k < 48
  · rw [if_pos h3] at h
    obtain ⟨q1, q2⟩ := Prod.mk.inj h
    omega
  rw [if_neg h3] at h
  by_cases h4 : k < 58
  · rw [if_pos h4] at h
    obtain ⟨q1, q2⟩ := Prod.mk.inj h
    omega
  rw [if_neg h4] at h
  by_cases h5 : k < 68
  · rw [if_pos h5] at h
    obtain ⟨q1, q2⟩ := Prod.mk.inj h
    omega
  rw [if_neg h5] at h
  by_cases h6 : k < 78
  · rw [if_pos h6] at h
    obtain ⟨q1, q2⟩ := Prod.mk.inj h
    omega
  rw [if_neg h6] at h
  by_cases h7 : k < 88
  · rw [if_pos h7] at h
    obtain ⟨q1, q2⟩ := Prod.mk.inj h
    omega
  rw [if_neg h7] at h
  by_cases h8 : k < 98
  · rw [if_pos h8] at h
    obtain ⟨q1, q2⟩ := Prod.mk.inj h
    omega
  rw [if_neg h8] at h
  by_cases h9 : k < 102
  · rw [if_pos h9] at h
    obtain ⟨q1, q2⟩ := Prod.mk.inj h
    omega
  rw [if_neg h9] at h
  by_cases h10 : k < 106
  · rw [if_pos h10] at h
    obtain ⟨q1, q2⟩ := Prod.mk.inj h
    omega
  rw [if_neg h10] at h
  by_cases h11 : k < 146
  · rw [if_pos h11] at h
    obtain ⟨q1, q2⟩ := Prod.mk.inj h
    omega
  rw [if_neg h11] at h
  by_cases h12 : k < 154
  · rw [if_pos h12] at h
    obtain ⟨q1, q2⟩ := Prod.mk.inj h
    omega
  rw [if_neg h12] at h
  by_cases h13 : k < 155
  · rw [if_pos h13] at h
    obtain ⟨q1, q2⟩ := Prod.mk.inj h
    omega
  rw [if_neg h13] at h
  by_cases h14 : k < 156
  · rw [if_pos h14] at h
    obtain ⟨q1, q2⟩ := Prod.mk.inj h
    omega
  rw [if_neg h14] at h
  obtain ⟨q1, q2⟩ := Prod.mk.inj h
  omega
theorem fp_12 {i : Nat} (h : i < 8) : fp (146 + i) = (12, i) := by
  unfold fp
  repeat (first | rw [if_neg (by omega)] | rw [if_pos (by omega)])
  exact congrArg (Prod.mk 12) (by omega)
theorem fpk_12 {k i : Nat} (h : fp k = (12, i)) : k = 146 + i := by
  unfold fp at h
  by_cases h0 : k < 12
  · rw [if_pos h0] at h
    obtain ⟨q1, q2⟩ := Prod.mk.inj h
    omega
  rw [if_neg h0] at h
  by_cases h1 : k < 24
  · rw [if_pos h1] at h
    obtain ⟨q1, q2⟩ := Prod.mk.inj h
    omega
  rw [if_neg h1] at h
  by_cases h2 : k < 36
  · rw [if_pos h2] at h
    obtain ⟨q1, q2⟩ := Prod.mk.inj h
    omega
  rw [if_neg h2] at h
  by_cases h3 : k < 48
  · rw [if_pos h3] at h
    obtain ⟨q1, q2⟩ := Prod.mk.inj h
    omega
  rw [if_neg h3] at h
  by_cases h4 : k < 58
  · rw [if_pos h4] at h
    obtain ⟨q1, q2⟩ := Prod.mk.inj h
    omega
  rw [if_neg h4] at h
  by_cases h5 : k < 68
  · rw [if_pos h5] at h
    obtain ⟨q1, q2⟩ := Prod.mk.inj h
    omega
  rw [if_neg h5] at h
  by_cases h6 : k < 78
  · rw [if_pos h6] at h
    obtain ⟨q1, q2⟩ := Prod.mk.inj h
    omega
  rw [if_neg h6] at h
  by_cases h7 : k < 88
  · rw [if_pos h7] at h
    obtain ⟨q1, q2⟩ := Prod.mk.inj h
    omega
  rw [if_neg h7] at h
  by_cases h8 : k < 98
  · rw [if_pos h8] at h
    obtain ⟨q1, q2⟩ := Prod.mk.inj h
    omega
  rw [if_neg h8] at h
  by_cases h9 : k < 102
  · rw [if_pos h9] at h
    obtain ⟨q1, q2⟩ := Prod.mk.inj h
    omega
  rw [if_neg h9] at h
  by_cases h10 : k < 106
  · rw [if_pos h10] at h
    obtain ⟨q1, q2⟩ := Prod.mk.inj h
    omega
  rw [if_neg h10] at h
  by_cases h11 : k < 146
  · rw [if_pos h11] at h
    obtain ⟨q1, q2⟩ := Prod.mk.inj h
    omega
  rw [if_neg h11] at h
  by_cases h12 : k < 154
  · rw [if_pos h12] at h
    obtain ⟨q1, q2⟩ := Prod.mk.inj h
    omega
  rw [if_neg h12] at h
  by_cases h13 : k < 155
  · rw [if_pos h13] at h
    obtain ⟨q1, q2⟩ := Prod.mk.inj h
    omega
  rw [if_neg h13] at h
  by_cases h14 : k < 156
  · rw [if_pos h14] at h
    obtain ⟨q1, q2⟩ := Prod.mk.inj h
    omega
  rw [if_neg h14] at h
  obtain ⟨q1, q2⟩ := Prod.mk.inj h
  omega
theorem fp_13 {i : Nat} (h : i < 1) : fp (154 + i) = (13, i) := by
  unfold fp
  repeat (first | rw [if_neg (by omega)] | rw [if_pos (by omega)])
  exact congrArg (Prod.mk 13) (by omega)
theorem fpk_13 {k i : Nat} (h : fp k = (13, i)) : k = 154 + i := by
  unfold fp at h
  by_cases h0 : k < 12
  · rw [if_pos h0] at h
    obtain ⟨q1, q2⟩ := Prod.mk.inj h
    omega
  rw [if_neg h0] at h
  by_cases h1 : k < 24
  · rw [if_pos h1] at h
    obtain ⟨q1, q2⟩ := Prod.mk.inj h
    omega
  rw [if_neg h1] at h
  by_cases h2 : k < 36
  · rw [if_pos h2] at h
    obtain ⟨q1, q2⟩ := Prod.mk.inj h
    omega
  rw [if_neg h2] at h
  by_cases h3 : k < 48
  · rw [if_pos h3] at h
    obtain ⟨q1, q2⟩ := Prod.mk.inj h
    omega
  rw [if_neg h3] at h
  by_cases h4 : k < 58
  · rw [if_pos h4] at h
    obtain ⟨q1, q2⟩ := Prod.mk.inj h
    omega
  rw [if_neg h4] at h
  by_cases h5 : k < 68
  · rw [if_pos h5] at h
    obtain ⟨q1, q2⟩ := Prod.mk.inj h
    omega
  rw [if_neg h5] at h
  by_cases h6 : k < 78
  · rw [if_pos h6] at h
    obtain ⟨q1, q2⟩ := Prod.mk.inj h
    omega
  rw [if_neg h6] at h
  by_cases h7 : k < 88
  · rw [if_pos h7] at h
    obtain ⟨q1, q2⟩ := Prod.mk.inj h
    omega
  rw [if_neg h7] at h
  by_cases h8 : k < 98
  · rw [if_pos h8] at h
    obtain ⟨q1, q2⟩ := Prod.mk.inj h
    omega
  rw [if_neg h8] at h
  by_cases h9 : k < 102
  · rw [if_pos h9] at h
    obtain ⟨q1, q2⟩ := Prod.mk.inj h
    omega
  rw [if_neg h9] at h
  by_cases h10 : k < 106
  · rw [if_pos h10] at h
    obtain ⟨q1, q2⟩ := Prod.mk.inj h
    omega
  rw [if_neg h10] at h
  by_cases h11 : k < 146
  · rw [if_pos h11] at h
    obtain ⟨q1, q2⟩ := Prod.mk.inj h
    omega
  rw [if_neg h11] at h
  by_cases h12 : k < 154
  · rw [if_pos h12] at h
    obtain ⟨q1, q2⟩ := Prod.mk.inj h
    omega
  rw [if_neg h12] at h
  by_cases h13 : k < 155
  · rw [if_pos h13] at h
    obtain ⟨q1, q2⟩ := Prod.mk.inj h
    omega
  rw [if_neg h13] at h
  by_cases h14 : k < 156
  · rw [if_pos h14] at h
    obtain ⟨q1, q2⟩ := Prod.mk.inj h
    omega
  rw [if_neg h14] at h
  obtain ⟨q1, q2⟩ := Prod.mk.inj h
  omega
theorem fp_14 {i : Nat} (h : i < 1) : fp (155 + i) = (14, i) := by
  unfold fp
  repeat (first | rw [if_neg (by omega)] | rw [if_pos (by omega)])
  exact congrArg (Prod.mk 14) (by omega)
theorem fpk_14 {k i : Nat} (h : fp k = (14, i)) : k = 155 + i := by
  unfold fp at h
  by_cases h0 : k < 12
  · rw [if_pos h0] at h
    obtain ⟨q1, q2⟩ := Prod.mk.inj h
    omega
  rw [if_neg h0] at h
  by_cases h1 : k < 24
  · rw [if_pos h1] at h
    obtain ⟨q1, q2⟩ := Prod.mk.inj h
    omega
  rw [if_neg h1] at h
  by_cases h2 : k < 36
  · rw [if_pos h2] at h
    obtain ⟨q1, q2⟩ := Prod.mk.inj h
    omega
  rw [if_neg h2] at h
  by_cases h3 : k < 48
  · rw [if_pos h3] at h
    obtain ⟨q1, q2⟩ := Prod.mk.inj h
    omega
  rw [if_neg h3] at h
  by_cases h4 : k < 58
  · rw [if_pos h4] at h
    obtain ⟨q1, q2⟩ := Prod.mk.inj h
    omega
  rw [if_neg h4] at h
  by_cases h5 : k < 68
  · rw [if_pos h5] at h
    obtain ⟨q1, q2⟩ := Prod.mk.inj h
    omega
  rw [if_neg h5] at h
  by_cases h6 : k < 78
  · rw [if_pos h6] at h
    obtain ⟨q1, q2⟩ := Prod.mk.inj h
    omega
  rw [if_neg h6] at h
  by_cases h7 : k < 88
  · rw [if_pos h7] at h
    obtain ⟨q1, q2⟩ := Prod.mk.inj h
    omega
  rw [if_neg h7] at h
  by_cases h8 : k < 98
  · rw [if_pos h8] at h
    obtain ⟨q1, q2⟩ := Prod.mk.inj h
    omega
  rw [if_neg h8] at h
  by_cases h9 : k < 102
  · rw [if_pos h9] at h
    obtain ⟨q1, q2⟩ := Prod.mk.inj h
    omega
  rw [if_neg h9] at h
  by_cases h10 : k < 106
  · rw [if_pos h10] at h
    obtain ⟨q1, q2⟩ := Prod.mk.inj h
    omega
  rw [if_neg h10] at h
  by_cases h11 : k < 146
  · rw [if_pos h11] at h
    obtain ⟨q1, q2⟩ := Prod.mk.inj h
    omega
  rw [if_neg h11] at h
  by_cases h12 : k < 154
  · rw [if_pos h12] at h
    obtain ⟨q1, q2⟩ := Prod.mk.inj h
    omega
  rw [if_neg h12] at h
  by_cases h13 : k < 155
  · rw [if_pos h13] at h
    obtain ⟨q1, q2⟩ := Prod.mk.inj h
    omega
  rw [if_neg h13] at h
  by_cases h14 : k < 156
  · rw [if_pos h14] at h
    obtain ⟨q1, q2⟩ := Prod.mk.inj h
    omega
  rw [if_neg h14] at h
  obtain ⟨q1, q2⟩ := Prod.mk.inj h
  omega
theorem fp_15 {i : Nat} : fp (156 + i) = (15, i) := by
  unfold fp
  repeat (first | rw [if_neg (by omega)] | rw [if_pos (by omega)])
  exact congrArg (Prod.mk 15) (by omega)
theorem fpk_15 {k i : Nat} (h : fp k = (15, i)) : k = 156 + i := by
  unfold fp at h
  by_cases h0 : k < 12
  · rw [if_pos h0] at h
    obtain ⟨q1, q2⟩ := Prod.mk.inj h
    omega
  rw [if_neg h0] at h
  by_cases h1 : k < 24
  · rw [if_pos h1] at h
    obtain ⟨q1, q2⟩ := Prod.mk.inj h
    omega
  rw [if_neg h1] at h
  by_cases h2 : k < 36
  · rw [if_pos h2] at h
    obtain ⟨q1, q2⟩ := Prod.mk.inj h
    omega
  rw [if_neg h2] at h
  by_cases h3 : k < 48
  · rw [if_pos h3] at h
    obtain ⟨q1, q2⟩ := Prod.mk.inj h
    omega
  rw [if_neg h3] at h
  by_cases h4 : k < 58
  · rw [if_pos h4] at h
    obtain ⟨q1, q2⟩ := Prod.mk.inj h
    omega
  rw [if_neg h4] at h
  by_cases h5 : k < 68
  · rw [if_pos h5] at h
    obtain ⟨q1, q2⟩ := Prod.mk.inj h
    omega
  rw [if_neg h5] at h
  by_cases h6 : k < 78
  · rw [if_pos h6] at h
    obtain ⟨q1, q2⟩ := Prod.mk.inj h
    omega
  rw [if_neg h6] at h
  by_cases h7 : k < 88
  · rw [if_pos h7] at h
    obtain ⟨q1, q2⟩ := Prod.mk.inj h
    omega
  rw [if_neg h7] at h
  by_cases h8 : k < 98
  · rw [if_pos h8] at h
    obtain ⟨q1, q2⟩ := Prod.mk.inj h
    omega
  rw [if_neg h8] at h
  by_cases h9 : k < 102
  · rw [if_pos h9] at h
    obtain ⟨q1, q2⟩ := Prod.mk.inj h
    omega
  rw [if_neg h9] at h
  by_cases h10 : k < 106
  · rw [if_pos h10] at h
    obtain ⟨q1, q2⟩ := Prod.mk.inj h
    omega
  rw [if_neg h10] at h
  by_cases h11 : k < 146
  · rw [if_pos h11] at h
    obtain ⟨q1, q2⟩ := Prod.mk.inj h
    omega
  rw [if_neg h11] at h
  by_cases h12 : k < 154
  · rw [if_pos h12] at h
    obtain ⟨q1, q2⟩ := Prod.mk.inj h
    omega
  rw [if_neg h12] at h
  by_cases h13 : k < 155
  · rw [if_pos h13] at h
    obtain ⟨q1, q2⟩ := Prod.mk.inj h
    omega
  rw [if_neg h13] at h
  by_cases h14 : k < 156
  · rw [if_pos h14] at h
    obtain ⟨q1, q2⟩ := Prod.mk.inj h
    omega
  rw [if_neg h14] at h
  obtain ⟨q1, q2⟩ := Prod.mk.inj h
  omega
theorem fl_0 (S : St) (Qk : Nat → Int64) {i : Nat} (h : i < 12) : fl S Qk (0 + i) = S 0 i := by
  unfold fl
  rw [fp_0 h]
  exact if_neg (show ¬ (0 : Nat) = 15 by decide)
theorem flu_0 (S : St) (Qk : Nat → Int64) {i : Nat} (v : Int64) (h : i < 12) : vp_updL (fl S Qk) (0 + i) v = fl (u2 S 0 i v) Qk := by
  funext k
  by_cases hk : k = 0 + i
  · subst hk
    rw [fl_0 _ _ h, u2_same]
    exact if_pos rfl
  · have e : vp_updL (fl S Qk) (0 + i) v k = fl S Qk k := if_neg hk
    rw [e]
    unfold fl
    have e2 : u2 S 0 i v (fp k).1 (fp k).2 = S (fp k).1 (fp k).2 := by rw [u2_ap, if_neg (fun q => hk (fpk_0 (Prod.ext q.1 q.2)))]
    rw [e2]
theorem fl_1 (S : St) (Qk : Nat → Int64) {i : Nat} (h : i < 12) : fl S Qk (12 + i) = S 1 i := by
  unfold fl
  rw [fp_1 h]
  exact if_neg (show ¬ (1 : Nat) = 15 by decide)
theorem flu_1 (S : St) (Qk : Nat → Int64) {i : Nat} (v : Int64) (h : i < 12) : vp_updL (fl S Qk) (12 + i) v = fl (u2 S 1 i v) Qk := by
  funext k
  by_cases hk : k = 12 + i
  · subst hk
    rw [fl_1 _ _ h, u2_same]
    exact if_pos rfl
  · have e : vp_updL (fl S Qk) (12 + i) v k = fl S Qk k := if_neg hk
    rw [e]
    unfold fl
    have e2 : u2 S 1 i v (fp k).1 (fp k).2 = S (fp k).1 (fp k).2 := by rw [u2_ap, if_neg (fun q => hk (fpk_1 (Prod.ext q.1 q.2)))]
    rw [e2]
theorem fl_2 (S : St) (Qk : Nat → Int64) {i : Nat} (h : i < 12) : fl S Qk (24 + i) = S 2 i := by
  unfold fl
  rw [fp_2 h]
  exact if_neg (show ¬ (2 : Nat) = 15 by decide)
theorem flu_2 (S : St) (Qk : Nat → Int64) {i : Nat} (v : Int64) (h : i < 12) : vp_updL (fl S Qk) (24 + i) v = fl (u2 S 2 i v) Qk := by
  funext k
  by_cases hk : k = 24 + i
  · subst hk
    rw [fl_2 _ _ h, u2_same]
    exact if_pos rfl
  · have e : vp_updL (fl S Qk) (24 + i) v k = fl S Qk k := if_neg hk
    rw [e]
    unfold fl
    have e2 : u2 S 2 i v (fp k).1 (fp k).2 = S (fp k).1 (fp k).2 := by rw [u2_ap, if_neg (fun q => hk (fpk_2 (Prod.ext q.1 q.2)))]
    rw [e2]
theorem fl_3 (S : St) (Qk : Nat → Int64) {i : Nat} (h : i < 12) : fl S Qk (36 + i) = S 3 i := by
  unfold fl
  rw [fp_3 h]
  exact if_neg (show ¬ (3 : Nat) = 15 by decide)
theorem flu_3 (S : St) (Qk : Nat → Int64) {i : Nat} (v : Int64) (h : i < 12) : vp_updL (fl S Qk) (36 + i) v = fl (u2 S 3 i v) Qk := by
  funext k
  by_cases hk : k = 36 + i
  · subst hk
    rw [fl_3 _ _ h, u2_same]
    exact if_pos rfl
  · have e : vp_updL (fl S Qk) (36 + i) v k = fl S Qk k := if_neg hk
    rw [e]
    unfold fl
    have e2 : u2 S 3 i v (fp k).1 (fp k).2 = S (fp k).1 (fp k).2 := by rw [u2_ap, if_neg (fun q => hk (fpk_3 (Prod.ext q.1 q.2)))]
    rw [e2]
theorem fl_4 (S : St) (Qk : Nat → Int64) {i : Nat} (h : i < 10) : fl S Qk (48 + i) = S 4 i := by
  unfold fl
  rw [fp_4 h]
  exact if_neg (show ¬ (4 : Nat) = 15 by decide)
theorem flu_4 (S : St) (Qk : Nat → Int64) {i : Nat} (v : Int64) (h : i < 10) : vp_updL (fl S Qk) (48 + i) v = fl (u2 S 4 i v) Qk := by
  funext k
  by_cases hk : k = 48 + i
  · subst hk
    rw [fl_4 _ _ h, u2_same]
    exact if_pos rfl
  · have e : vp_updL (fl S Qk) (48 + i) v k = fl S Qk k := if_neg hk
    rw [e]
    unfold fl
    have e2 : u2 S 4 i v (fp k).1 (fp k).2 = S (fp k).1 (fp k).2 := by rw [u2_ap, if_neg (fun q => hk (fpk_4 (Prod.ext q.1 q.2)))]
    rw [e2]
theorem fl_5 (S : St) (Qk : Nat → Int64) {i : Nat} (h : i < 10) : fl S Qk (58 + i) = S 5 i := by
  unfold fl
  rw [fp_5 h]
  exact if_neg (show ¬ (5 : Nat) = 15 by decide)
theorem flu_5 (S : St) (Qk : Nat → Int64) {i : Nat} (v : Int64) (h : i < 10) : vp_updL (fl S Qk) (58 + i) v = fl (u2 S 5 i v) Qk := by
  funext k
  by_cases hk : k = 58 + i
  · subst hk
    rw [fl_5 _ _ h, u2_same]
    exact if_pos rfl
  · have e : vp_updL (fl S Qk) (58 + i) v k = fl S Qk k := if_neg hk
    rw [e]
    unfold fl
    have e2 : u2 S 5 i v (fp k).1 (fp k).2 = S (fp k).1 (fp k).2 := by rw [u2_ap, if_neg (fun q => hk (fpk_5 (Prod.ext q.1 q.2)))]
    rw [e2]
theorem fl_6 (S : St) (Qk : Nat → Int64) {i : Nat} (h : i < 10) : fl S Qk (68 + i) = S 6 i := by
  unfold fl
  rw [fp_6 h]
  exact if_neg (show ¬ (6 : Nat) = 15 by decide)
theorem flu_6 (S : St) (Qk : Nat → Int64) {i : Nat} (v : Int64) (h : i < 10) : vp_updL (fl S Qk) (68 + i) v = fl (u2 S 6 i v) Qk := by
  funext k
  by_cases hk : k = 68 + i
  · subst hk
    rw [fl_6 _ _ h, u2_same]
    exact if_pos rfl
  · have e : vp_updL (fl S Qk) (68 + i) v k = fl S Qk k := if_neg hk
    rw [e]
    unfold fl
    have e2 : u2 S 6 i v (fp k).1 (fp k).2 = S (fp k).1 (fp k).2 := by rw [u2_ap, if_neg (fun q => hk (fpk_6 (Prod.ext q.1 q.2)))]
    rw [e2]
theorem fl_7 (S : St) (Qk : Nat → Int64) {i : Nat} (h : i < 10) : fl S Qk (78 + i) = S 7 i := by
  unfold fl
  rw [fp_7 h]
  exact if_neg (show ¬ (7 : Nat) = 15 by decide)
theorem flu_7 (S : St) (Qk : Nat → Int64) {i : Nat} (v : Int64) (h : i < 10) : vp_updL (fl S Qk) (78 + i) v = fl (u2 S 7 i v) Qk := by
  funext k
  by_cases hk : k = 78 + i
  · subst hk
    rw [fl_7 _ _ h, u2_same]
    exact if_pos rfl
  · have e : vp_updL (fl S Qk) (78 + i) v k = fl S Qk k := if_neg hk
    rw [e]
    unfold fl
    have e2 : u2 S 7 i v (fp k).1 (fp k).2 = S (fp k).1 (fp k).2 := by rw [u2_ap, if_neg (fun q => hk (fpk_7 (Prod.ext q.1 q.2)))]
    rw [e2]
theorem fl_8 (S : St) (Qk : Nat → Int64) {i : Nat} (h : i < 10) : fl S Qk (88 + i) = S 8 i := by
  unfold fl
  rw [fp_8 h]
  exact if_neg (show ¬ (8 : Nat) = 15 by decide)
theorem flu_8 (S : St) (Qk : Nat → Int64) {i : Nat} (v : Int64) (h : i < 10) : vp_updL (fl S Qk) (88 + i) v = fl (u2 S 8 i v) Qk := by
  funext k
  by_cases hk : k = 88 + i
  · subst hk
    rw [fl_8 _ _ h, u2_same]
    exact if_pos rfl
  · have e : vp_updL (fl S Qk) (88 + i) v k = fl S Qk k := if_neg hk
    rw [e]
    unfold fl
    have e2 : u2 S 8 i v (fp k).1 (fp k).2 = S (fp k).1 (fp k).2 := by rw [u2_ap, if_neg (fun q => hk (fpk_8 (Prod.ext q.1 q.2)))]
    rw [e2]
theorem fl_9 (S : St) (Qk : Nat → Int64) {i : Nat} (h : i < 4) : fl S Qk (98 + i) = S 9 i := by
  unfold fl
  rw [fp_9 h]
  exact if_neg (show ¬ (9 : Nat) = 15 by decide)
theorem flu_9 (S : St) (Qk : Nat → Int64) {i : Nat} (v : Int64) (h : i < 4) : vp_updL (fl S Qk) (98 + i) v = fl (u2 S 9 i v) Qk := by
  funext k
  by_cases hk : k = 98 + i
  · subst hk
    rw [fl_9 _ _ h, u2_same]
    exact if_pos rfl
  · have e : vp_updL (fl S Qk) (98 + i) v k = fl S Qk k := if_neg hk
    rw [e]
    unfold fl
    have e2 : u2 S 9 i v (fp k).1 (fp k).2 = S (fp k).1 (fp k).2 := by rw [u2_ap, if_neg (fun q => hk (fpk_9 (Prod.ext q.1 q.2)))]
    rw [e2]
theorem fl_10 (S : St) (Qk : Nat → Int64) {i : Nat} (h : i < 4) : fl S Qk (102 + i) = S 10 i := by
  unfold fl
  rw [fp_10 h]
  exact if_neg (show ¬ (10 : Nat) = 15 by decide)
theorem flu_10 (S : St) (Qk : Nat → Int64) {i : Nat} (v : Int64) (h : i < 4) : vp_updL (fl S Qk) (102 + i) v = fl (u2 S 10 i v) Qk := by
  funext k
  by_cases hk : k = 102 + i
  · subst hk
    rw [fl_10 _ _ h, u2_same]
    exact if_pos rfl
  · have e : vp_updL (fl S Qk) (102 + i) v k = fl S Qk k := if_neg hk
    rw [e]
    unfold fl
    have e2 : u2 S 10 i v (fp k).1 (fp k).2 = S (fp k).1 (fp k).2 := by rw [u2_ap, if_neg (fun q => hk (fpk_10 (Prod.ext q.1 q.2)))]
    rw [e2]
theorem fl_11 (S : St) (Qk : Nat → Int64) {i : Nat} (h : i < 40) : fl S Qk (106 + i) = S 11 i := by
  unfold fl
  rw [fp_11 h]
  exact if_neg (show ¬ (11 : Nat) = 15 by decide)
theorem flu_11 (S : St) (Qk : Nat → Int64) {i : Nat} (v : Int64) (h : i < 40) : vp_updL (fl S Qk) (106 + i) v = fl (u2 S 11 i v) Qk := by
  funext k
  by_cases hk : k = 106 + i
  · subst hk
    rw [fl_11 _ _ h, u2_same]
    exact if_pos rfl
  · have e : vp_updL (fl S Qk) (106 + i) v k = fl S Qk k := if_neg hk
    rw [e]
    unfold fl
    have e2 : u2 S 11 i v (fp k).1 (fp k).2 = S (fp k).1 (fp k).2 := by rw [u2_ap, if_neg (fun q => hk (fpk_11 (Prod.ext q.1 q.2)))]
    rw [e2]
theorem fl_12 (S : St) (Qk : Nat → Int64) {i : Nat} (h : i < 8) : fl S Qk (146 + i) = S 12 i := by
  unfold fl
  rw [fp_12 h]
  exact if_neg (show ¬ (12 : Nat) = 15 by decide)
theorem flu_12 (S : St) (Qk : Nat → Int64) {i : Nat} (v : Int64) (h : i < 8) : vp_updL (fl S Qk) (146 + i) v = fl (u2 S 12 i v) Qk := by
  funext k
  by_cases hk : k = 146 + i
  · subst hk
    rw [fl_12 _ _ h, u2_same]
    exact if_pos rfl
  · have e : vp_updL (fl S Qk) (146 + i) v k = fl S Qk k := if_neg hk
    rw [e]
    unfold fl
    have e2 : u2 S 12 i v (fp k).1 (fp k).2 = S (fp k).1 (fp k).2 := by rw [u2_ap, if_neg (fun q => hk (fpk_12 (Prod.ext q.1 q.2)))]
    rw [e2]
theorem fl_13 (S : St) (Qk : Nat → Int64) {i : Nat} (h : i < 1) : fl S Qk (154 + i) = S 13 i := by
  unfold fl
  rw [fp_13 h]
  exact if_neg (show ¬ (13 : Nat) = 15 by decide)
theorem flu_13 (S : St) (Qk : Nat → Int64) {i : Nat} (v : Int64) (h : i < 1) : vp_updL (fl S Qk) (154 + i) v = fl (u2 S 13 i v) Qk := by
  funext k
  by_cases hk : k = 154 + i
  · subst hk
    rw [fl_13 _ _ h, u2_same]
    exact if_pos rfl
  · have e : vp_updL (fl S Qk) (154 + i) v k = fl S Qk k := if_neg hk
    rw [e]
    unfold fl
    have e2 : u2 S 13 i v (fp k).1 (fp k).2 = S (fp k).1 (fp k).2 := by rw [u2_ap, if_neg (fun q => hk (fpk_13 (Prod.ext q.1 q.2)))]
    rw [e2]
theorem fl_14 (S : St) (Qk : Nat → Int64) {i : Nat} (h : i < 1) : fl S Qk (155 + i) = S 14 i := by
  unfold fl
  rw [fp_14 h]
  exact if_neg (show ¬ (14 : Nat) = 15 by decide)
theorem flu_14 (S : St) (Qk : Nat → Int64) {i : Nat} (v : Int64) (h : i < 1) : vp_updL (fl S Qk) (155 + i) v = fl (u2 S 14 i v) Qk := by
  funext k
  by_cases hk : k = 155 + i
  · subst hk
    rw [fl_14 _ _ h, u2_same]
    exact if_pos rfl
  · have e : vp_updL (fl S Qk) (155 + i) v k = fl S Qk k := if_neg hk
    rw [e]
    unfold fl
    have e2 : u2 S 14 i v (fp k).1 (fp k).2 = S (fp k).1 (fp k).2 := by rw [u2_ap, if_neg (fun q => hk (fpk_14 (Prod.ext q.1 q.2)))]
    rw [e2]
theorem fl_q (S : St) (Qk : Nat → Int64) (i : Nat) : fl S Qk (156 + i) = Qk i := by
  unfold fl
  rw [fp_15]
  exact if_pos rfl
theorem flu_q (S : St) (Qk : Nat → Int64) (i : Nat) (v : Int64) : vp_updL (fl S Qk) (156 + i) v = fl S (vp_updL Qk i v) := by
  funext k
  by_cases hk : k = 156 + i
  · subst hk
    rw [fl_q]
    exact (if_pos rfl).trans (if_pos rfl).symm
  · have e : vp_updL (fl S Qk) (156 + i) v k = fl S Qk k := if_neg hk
    rw [e]
    unfold fl
    by_cases h1 : (fp k).1 = 15
    · rw [if_pos h1, if_pos h1]
      exact (if_neg (fun q => hk (fpk_15 (Prod.ext h1 q)))).symm
    · rw [if_neg h1, if_neg h1]
/-- the reference: rows and numbers; K the row kept aside, P the parts, Y what comes through cracks -/
def wM (h : Nat → Nat) (cI cJ cZ : ClassId) (th : Int32) (C : Cf) (N : Nat → Nat) (S : St) (Qk K P : Nat → Int64) (Y : St) : va_W := [(h 0, .inr (7, [.int th, .ref (h 1), .ref (h 2), .ref (h 3), .ref (h 4), .int (C 10 0), .int (nI (N 0)), .ref (h 5), .ref (h 6), .ref (h 7), .ref (h 8), .int (nI (N 1)), .ref (h 9), .ref (h 10), .int (nI (N 2)), .ref (h 11), .ref (h 12), .ref (h 13), .ref (h 14), .ref (h 15), .ref (h 16)])), (h 1, .inl (cJ, 336, .inr (.inl (fl S Qk)))), (h 2, .inl (cJ, 336, .inr (.inl K))), (h 3, .inl (cI, 12, .inl (C 0))), (h 4, .inl (cI, 12, .inl (C 1))), (h 5, .inl (cI, 10, .inl (C 2))), (h 6, .inl (cZ, 10, .inl (C 3))), (h 7, .inl (cI, 10, .inl (C 4))), (h 8, .inl (cJ, 10, .inr (.inl P))), (h 9, .inl (cI, 6, .inl (C 5))), (h 10, .inl (cI, 6, .inl (C 6))), (h 11, .inl (cI, 4, .inl (C 7))), (h 12, .inl (cI, 4, .inl (C 8))), (h 13, .inl (cI, 4, .inl (C 9))), (h 14, .inl (cJ, 12, .inr (.inl (Y 0)))), (h 15, .inl (cJ, 12, .inr (.inl (Y 1)))), (h 16, .inl (cJ, 12, .inr (.inl (Y 2))))]
/-- a loop's state behind n rounds -/
def itr {α : Type} (f : Nat → α → α) (a : α) : Nat → α
  | 0 => a
  | n + 1 => f n (itr f a n)
/-- a class's words are the law's -/
theorem kH_X0 : plainName RX0 = true := by decide +kernel
theorem kH_X1 : plainName RX1 = true := by decide +kernel
theorem kH_X2 : plainName RX2 = true := by decide +kernel
theorem kH_X3 : plainName RX3 = true := by decide +kernel
theorem kH_X4 : plainName RX4 = true := by decide +kernel
theorem kH_X5 : plainName RX5 = true := by decide +kernel
theorem kH_X6 : plainName RX6 = true := by decide +kernel
theorem kH_X7 : plainName RX7 = true := by decide +kernel
