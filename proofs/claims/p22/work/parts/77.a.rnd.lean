theorem wb_tb (n : Nat) : (lN n).toBitVec = BitVec.ofNat 64 n := rfl
theorem wb_inj {a b : Int64} (h : a.toBitVec = b.toBitVec) : a = b := Int64.toBitVec_inj.mp h
theorem wb_tn {n : Nat} (h : n < 2 ^ 64) : (lN n).toBitVec.toNat = n := by rw [wb_tb, BitVec.toNat_ofNat, Nat.mod_eq_of_lt h]
theorem wb_c : ∀ k, k < 64 → ((nI k).toInt64 &&& 63) = lN k := by decide +kernel
theorem wb_sm : ∀ k, k < 64 → (BitVec.ofNat 64 k).smod 64 = BitVec.ofNat 64 k := by decide +kernel
theorem wb_pw {a b : Nat} (h : a ≤ b) : 2 ^ b = 2 ^ a * 2 ^ (b - a) := by rw [← Nat.pow_add]; congr 1; omega
theorem wb_lt2 {a b : Nat} (h : a < b) : 2 ^ a < 2 ^ b := Nat.pow_lt_pow_right (by decide) h
theorem wb_shl (n : Nat) {k : Nat} (hk : k < 64) : lN n <<< ((nI k).toInt64 &&& 63) = lN (n * 2 ^ k) := by
  rw [wb_c k hk]
  apply wb_inj
  rw [Int64.toBitVec_shiftLeft, wb_tb, wb_tb, wb_tb, wb_sm k hk]
  apply BitVec.eq_of_toNat_eq
  rw [BitVec.shiftLeft_eq', BitVec.toNat_shiftLeft, BitVec.toNat_ofNat, BitVec.toNat_ofNat, BitVec.toNat_ofNat, Nat.mod_eq_of_lt (show k < 2 ^ 64 by omega), Nat.shiftLeft_eq, Nat.mul_mod, Nat.mod_mod, ← Nat.mul_mod]
theorem wb_and {a b : Nat} (ha : a < 2 ^ 64) (hb : b < 2 ^ 64) : lN a &&& lN b = lN (a &&& b) := by
  apply wb_inj
  rw [Int64.toBitVec_and, wb_tb, wb_tb, wb_tb]
  apply BitVec.eq_of_toNat_eq
  rw [BitVec.toNat_and, BitVec.toNat_ofNat, BitVec.toNat_ofNat, BitVec.toNat_ofNat, Nat.mod_eq_of_lt ha, Nat.mod_eq_of_lt hb, Nat.mod_eq_of_lt (Nat.and_lt_two_pow _ hb)]
theorem wb_or {a b : Nat} (ha : a < 2 ^ 64) (hb : b < 2 ^ 64) : lN a ||| lN b = lN (a ||| b) := by
  apply wb_inj
  rw [Int64.toBitVec_or, wb_tb, wb_tb, wb_tb]
  apply BitVec.eq_of_toNat_eq
  rw [BitVec.toNat_or, BitVec.toNat_ofNat, BitVec.toNat_ofNat, BitVec.toNat_ofNat, Nat.mod_eq_of_lt ha, Nat.mod_eq_of_lt hb, Nat.mod_eq_of_lt (Nat.or_lt_two_pow ha hb)]
theorem wb_mask {n k : Nat} (hn : n < 2 ^ 64) (hk : k < 64) : lN n &&& lN (2 ^ k - 1) = lN (n % 2 ^ k) := by
  rw [wb_and hn (by have := wb_lt2 hk; omega), Nat.and_two_pow_sub_one_eq_mod]
theorem wb_a1 {n : Nat} (hn : n < 2 ^ 64) : lN n &&& 1 = lN (n % 2) := wb_mask (k := 1) hn (by decide)
/-! rounding in whole numbers, and the floats -/
def cN (n : Nat) : Nat := if n.log2 ≤ 23 then n * 2 ^ (23 - n.log2) else if FP.Core.nearest n (2 ^ (n.log2 - 23)) = 16777216 then 8388608 else FP.Core.nearest n (2 ^ (n.log2 - 23))
def eN (n : Nat) : Nat := if n.log2 ≤ 23 then n.log2 + 277 else if FP.Core.nearest n (2 ^ (n.log2 - 23)) = 16777216 then n.log2 + 278 else n.log2 + 277
theorem lg_up {n : Nat} : n < 2 ^ (n.log2 + 1) := Nat.lt_log2_self
theorem nr_rng {n : Nat} (h : n ≠ 0) (h2 : ¬ n.log2 ≤ 23) : 8388608 ≤ FP.Core.nearest n (2 ^ (n.log2 - 23)) ∧ FP.Core.nearest n (2 ^ (n.log2 - 23)) ≤ 16777216 := by
  have h1 := Nat.log2_self_le h
  have h3 := lg_up (n := n)
  refine ⟨FP.Core.nearest_ge (Nat.two_pow_pos _) ?_, FP.Core.nearest_le (Nat.two_pow_pos _) ?_⟩
  · rw [show (8388608 : Nat) = 2 ^ 23 from rfl, ← Nat.pow_add, show 23 + (n.log2 - 23) = n.log2 by omega]
    exact h1
  · rw [show (16777216 : Nat) = 2 ^ 24 from rfl, ← Nat.pow_add, show 24 + (n.log2 - 23) = n.log2 + 1 by omega]
    omega
theorem sm_rng {n : Nat} (h : n ≠ 0) (h2 : n.log2 ≤ 23) : 8388608 ≤ n * 2 ^ (23 - n.log2) ∧ n * 2 ^ (23 - n.log2) < 16777216 := by
  have h1 := Nat.mul_le_mul_right (2 ^ (23 - n.log2)) (Nat.log2_self_le h)
  have h3 := Nat.mul_lt_mul_of_pos_right (lg_up (n := n)) (Nat.two_pow_pos (23 - n.log2))
  rw [← Nat.pow_add, show n.log2 + (23 - n.log2) = 23 by omega] at h1
  rw [← Nat.pow_add, show n.log2 + 1 + (23 - n.log2) = 24 by omega] at h3
  exact ⟨h1, h3⟩
theorem cN_ok {n : Nat} (h : n ≠ 0) : 8388608 ≤ cN n ∧ cN n < 16777216 := by
  unfold cN
  by_cases h2 : n.log2 ≤ 23
  · rw [if_pos h2]
    exact sm_rng h h2
  · rw [if_neg h2]
    have := nr_rng h h2
    by_cases h3 : FP.Core.nearest n (2 ^ (n.log2 - 23)) = 16777216
    · rw [if_pos h3]
      omega
    · rw [if_neg h3]
      omega
theorem eN_ok (n : Nat) : n.log2 + 277 ≤ eN n ∧ eN n ≤ n.log2 + 278 := by
  unfold eN
  (repeat' split) <;> omega
theorem rr_gen {s : Bool} {A B : Nat} {e : Int} (hA : 0 < A) (h1 : -126 ≤ FP.Core.leading A B + e) : FP.Core.roundRatio FP.Core.b32 s A B e = FP.Core.settle FP.Core.b32 s (FP.Core.nearest (A * 2 ^ (23 - FP.Core.leading A B).toNat) (B * 2 ^ (FP.Core.leading A B - 23).toNat)) (FP.Core.leading A B + e - 23) := by
  obtain ⟨L, hL⟩ : ∃ L, L = FP.Core.leading A B := ⟨_, rfl⟩
  rw [← hL] at h1 ⊢
  have hq : FP.Core.quantum FP.Core.b32 A B e = L + e - 23 := by
    unfold FP.Core.quantum
    rw [← hL]
    show max (-149 : Int) (L + e - ((24 : Int) - 1)) = _
    omega
  unfold FP.Core.roundRatio
  rw [if_neg (by omega), hq]
  unfold FP.Core.roundAt FP.Core.unitsNum FP.Core.unitsDen
  rw [show e - (L + e - 23) = 23 - L by omega, show L + e - 23 - e = L - 23 by omega]
theorem st_lt {s : Bool} {c : Nat} {q : Int} (h : c < 16777216) (hq : q ≤ 104) : FP.Core.settle FP.Core.b32 s c q = .fin s c q := by
  have h104 : FP.Core.b32.qmax = 104 := by decide +kernel
  unfold FP.Core.settle FP.Core.bound
  rw [if_pos (show c < 2 ^ FP.Core.b32.p from h), h104, if_pos hq]
theorem st_eq {s : Bool} {c : Nat} {q : Int} (h : c = 16777216) (hq : q ≤ 103) : FP.Core.settle FP.Core.b32 s c q = .fin s 8388608 (q + 1) := by
  have h104 : FP.Core.b32.qmax = 104 := by decide +kernel
  unfold FP.Core.settle FP.Core.bound
  rw [if_neg (show ¬ c < 2 ^ FP.Core.b32.p from fun z => by rw [h] at z; exact absurd z (by decide)), h104, if_pos (by omega)]
  rfl
theorem nr_1 (x : Nat) : FP.Core.nearest x 1 = x := by
  unfold FP.Core.nearest
  rw [Nat.mod_one, if_pos (by decide), Nat.div_one]
theorem rr_one {n : Nat} {e : Int} (h : n ≠ 0) (h1 : -126 ≤ (n.log2 : Int) + e) (h2 : (n.log2 : Int) + e ≤ 120) : FP.Core.roundRatio FP.Core.b32 false n 1 e = .fin false (cN n) (e + (eN n : Int) - 300) := by
  rw [rr_gen (by omega) (by rw [lead_one h]; exact h1), lead_one h]
  unfold cN eN
  by_cases h3 : n.log2 ≤ 23
  · rw [if_pos h3, if_pos h3, show ((23 : Int) - (n.log2 : Int)).toNat = 23 - n.log2 by omega, show ((n.log2 : Int) - 23).toNat = 0 by omega, Nat.pow_zero, Nat.mul_one, nr_1, st_lt (sm_rng h h3).2 (by omega)]
    exact congrArg (FP.Core.Datum.fin false _) (by omega)
  · rw [if_neg h3, if_neg h3, show ((23 : Int) - (n.log2 : Int)).toNat = 0 by omega, show ((n.log2 : Int) - 23).toNat = n.log2 - 23 by omega, Nat.pow_zero, Nat.mul_one, Nat.one_mul]
    have hr := nr_rng h h3
    by_cases h4 : FP.Core.nearest n (2 ^ (n.log2 - 23)) = 16777216
    · rw [if_pos h4, if_pos h4, st_eq h4 (by omega)]
      exact congrArg (FP.Core.Datum.fin false _) (by omega)
    · rw [if_neg h4, if_neg h4, st_lt (by omega) (by omega)]
      exact congrArg (FP.Core.Datum.fin false _) (by omega)
/-- the quotient with a last bit for what is left -/
def stk (T c : Nat) : Nat := if T % c = 0 then T / c else 2 * (T / c / 2) + 1
theorem nr_stk {T c G : Nat} (hc : 0 < c) : FP.Core.nearest (stk T c) (4 * G) = FP.Core.nearest T (c * (4 * G)) := by
  have e1 : T / (c * (4 * G)) = T / c / (4 * G) := (Nat.div_div_eq_div_mul T c (4 * G)).symm
  have e2 : T % (c * (4 * G)) = T % c + c * (T / c % (4 * G)) := Nat.mod_mul
  obtain ⟨i, hi⟩ : ∃ i, i = T / c := ⟨_, rfl⟩
  obtain ⟨r, hr⟩ : ∃ r, r = T % c := ⟨_, rfl⟩
  have hrc : r < c := by rw [hr]; exact Nat.mod_lt _ hc
  rw [← hi, ← hr] at e2
  rw [← hi] at e1
  unfold stk
  rw [← hi, ← hr]
  have d1 : i / (4 * G) = i / 2 / (2 * G) := by rw [Nat.div_div_eq_div_mul, ← Nat.mul_assoc]
  have d2 : i % (4 * G) = i % 2 + 2 * (i / 2 % (2 * G)) := by
    rw [show 4 * G = 2 * (2 * G) by omega]
    exact Nat.mod_mul
  by_cases h0 : r = 0
  · rw [if_pos h0]
    unfold FP.Core.nearest
    rw [e1, e2, h0, Nat.zero_add]
    obtain ⟨R, hR⟩ : ∃ R, R = i % (4 * G) := ⟨_, rfl⟩
    rw [← hR, show 2 * (c * R) = c * (2 * R) by rw [Nat.mul_left_comm]]
    have q1 : c * (2 * R) < c * (4 * G) ↔ 2 * R < 4 * G := Nat.mul_lt_mul_left hc
    have q2 : c * (4 * G) < c * (2 * R) ↔ 4 * G < 2 * R := Nat.mul_lt_mul_left hc
    by_cases h1 : 2 * R < 4 * G
    · rw [if_pos h1, if_pos (q1.mpr h1)]
    · rw [if_neg h1, if_neg (fun z => h1 (q1.mp z))]
      by_cases h2 : 4 * G < 2 * R
      · rw [if_pos h2, if_pos (q2.mpr h2)]
      · rw [if_neg h2, if_neg (fun z => h2 (q2.mp z))]
  · rw [if_neg h0]
    have f1 : (2 * (i / 2) + 1) / (4 * G) = i / (4 * G) := by
      rw [d1, show 4 * G = 2 * (2 * G) by omega, ← Nat.div_div_eq_div_mul, show (2 * (i / 2) + 1) / 2 = i / 2 by omega]
    have f2 : (2 * (i / 2) + 1) % (4 * G) = 1 + 2 * (i / 2 % (2 * G)) := by
      rw [show 4 * G = 2 * (2 * G) by omega, Nat.mod_mul, show (2 * (i / 2) + 1) % 2 = 1 by omega, show (2 * (i / 2) + 1) / 2 = i / 2 by omega]
    unfold FP.Core.nearest
    rw [f1, f2, e1, e2, d2]
    obtain ⟨u, hu⟩ : ∃ u, u = i / 2 % (2 * G) := ⟨_, rfl⟩
    obtain ⟨b, hb⟩ : ∃ b, b = i % 2 := ⟨_, rfl⟩
    have hb2 : b < 2 := by rw [hb]; exact Nat.mod_lt _ (by decide)
    rw [← hu, ← hb]
    have hcD : c * (4 * G) = 2 * (c * (2 * G)) := by rw [show 4 * G = 2 * (2 * G) by omega, Nat.mul_left_comm]
    by_cases h1 : u < G
    · have m1 : c * (b + 2 * u) + c ≤ c * (2 * G) := by
        have : c * (b + 2 * u + 1) ≤ c * (2 * G) := Nat.mul_le_mul_left c (by omega)
        rw [Nat.mul_add c (b + 2 * u) 1, Nat.mul_one] at this
        exact this
      rw [if_pos (by omega), if_pos (by omega)]
    · have m2 : c * (2 * G) ≤ c * (b + 2 * u) := Nat.mul_le_mul_left c (by omega)
      rw [if_neg (by omega), if_pos (by omega), if_neg (by omega), if_pos (by omega)]
theorem stk_lg {c d : Nat} (h1 : 8388608 ≤ c) (h2 : c < 16777216) (h3 : 8388608 ≤ d) (h4 : d < 16777216) : (d ≤ c → 4294967296 ≤ stk (c * 4294967296) d ∧ stk (c * 4294967296) d < 8589934592) ∧ (¬ d ≤ c → 2147483648 ≤ stk (c * 4294967296) d ∧ stk (c * 4294967296) d < 4294967296) := by
  have hd : 0 < d := by omega
  have a1 : (d ≤ c → 4294967296 ≤ c * 4294967296 / d ∧ c * 4294967296 / d < 8589934592) ∧ (¬ d ≤ c → 2147483648 ≤ c * 4294967296 / d ∧ c * 4294967296 / d < 4294967296) := by
    refine ⟨fun h => ⟨(Nat.le_div_iff_mul_le hd).mpr (by omega), (Nat.div_lt_iff_lt_mul hd).mpr (by omega)⟩, fun h => ⟨(Nat.le_div_iff_mul_le hd).mpr (by omega), (Nat.div_lt_iff_lt_mul hd).mpr (by omega)⟩⟩
  unfold stk
  obtain ⟨i, hi⟩ : ∃ i, i = c * 4294967296 / d := ⟨_, rfl⟩
  rw [← hi] at a1 ⊢
  split <;> omega
theorem ld_24 {c d : Nat} (h1 : 8388608 ≤ c) (h2 : c < 16777216) (h3 : 8388608 ≤ d) (h4 : d < 16777216) : FP.Core.leading c d = if d ≤ c then 0 else -1 := by
  have ea : c.log2 = 23 := (Nat.log2_eq_iff (by omega)).mpr ⟨h1, h2⟩
  have eb : d.log2 = 23 := (Nat.log2_eq_iff (by omega)).mpr ⟨h3, h4⟩
  unfold FP.Core.leading
  rw [ea, eb]
  have e0 : (((23 : Nat) : Int) - ((23 : Nat) : Int)) = 0 := rfl
  simp only [e0]
  have e1 : (0 : Int).toNat = 0 := rfl
  have e2 : (-(0 : Int)).toNat = 0 := rfl
  rw [e1, e2, Nat.pow_zero, Nat.mul_one, Nat.mul_one]
  by_cases h : d ≤ c
  · rw [if_pos h, if_pos h]
  · rw [if_neg h, if_neg h]
    rfl
theorem qt_rr {c d : Nat} {e : Int} (h1 : 8388608 ≤ c) (h2 : c < 16777216) (h3 : 8388608 ≤ d) (h4 : d < 16777216) (h5 : -120 ≤ e) : FP.Core.roundRatio FP.Core.b32 false c d e = FP.Core.roundRatio FP.Core.b32 false (stk (c * 4294967296) d) 1 (e - 32) := by
  have hs := stk_lg h1 h2 h3 h4
  have hl := ld_24 h1 h2 h3 h4
  have hd : 0 < d := by omega
  by_cases h : d ≤ c
  · have hq := hs.1 h
    have hn : stk (c * 4294967296) d ≠ 0 := by omega
    have lg : (stk (c * 4294967296) d).log2 = 32 := (Nat.log2_eq_iff hn).mpr hq
    rw [if_pos h] at hl
    rw [rr_gen (by omega) (by omega), rr_gen (by omega) (by rw [lead_one hn, lg]; omega), lead_one hn, lg, hl]
    have k1 : ((23 : Int) - 0).toNat = 23 := rfl
    have k2 : ((0 : Int) - 23).toNat = 0 := rfl
    have k3 : ((23 : Int) - ((32 : Nat) : Int)).toNat = 0 := rfl
    have k4 : (((32 : Nat) : Int) - 23).toNat = 9 := rfl
    rw [k1, k2, k3, k4, Nat.pow_zero, Nat.mul_one, Nat.mul_one, Nat.one_mul, show (2 : Nat) ^ 9 = 4 * 128 from rfl, nr_stk hd]
    have : FP.Core.nearest (c * 2 ^ 23) d = FP.Core.nearest (c * 4294967296) (d * (4 * 128)) := by
      rw [← FP.Core.nearest_scale (c * 2 ^ 23) d 512 (by decide), Nat.mul_assoc]
    rw [this]
    exact congrArg (FP.Core.settle FP.Core.b32 false _) (by omega)
  · have hq := hs.2 h
    have hn : stk (c * 4294967296) d ≠ 0 := by omega
    have lg : (stk (c * 4294967296) d).log2 = 31 := (Nat.log2_eq_iff hn).mpr hq
    rw [if_neg h] at hl
    rw [rr_gen (by omega) (by omega), rr_gen (by omega) (by rw [lead_one hn, lg]; omega), lead_one hn, lg, hl]
    have k1 : ((23 : Int) - -1).toNat = 24 := rfl
    have k2 : ((-1 : Int) - 23).toNat = 0 := rfl
    have k3 : ((23 : Int) - ((31 : Nat) : Int)).toNat = 0 := rfl
    have k4 : (((31 : Nat) : Int) - 23).toNat = 8 := rfl
    rw [k1, k2, k3, k4, Nat.pow_zero, Nat.mul_one, Nat.mul_one, Nat.one_mul, show (2 : Nat) ^ 8 = 4 * 64 from rfl, nr_stk hd]
    have : FP.Core.nearest (c * 2 ^ 24) d = FP.Core.nearest (c * 4294967296) (d * (4 * 64)) := by
      rw [← FP.Core.nearest_scale (c * 2 ^ 24) d 256 (by decide), Nat.mul_assoc]
    rw [this]
    exact congrArg (FP.Core.settle FP.Core.b32 false _) (by omega)
theorem l2f_cN {n : Nat} (h : n ≠ 0) (h2 : n < 2 ^ 63) : FP.Core.val32 (FP.Core.l2f (lN n)) = .fin false (cN n) ((eN n : Int) - 300) := by
  have hl : n.log2 < 63 := (Nat.log2_lt h).mpr h2
  rw [FP.Core.val32_l2f, pk_lT h2]
  unfold FP.Core.ofInt
  rw [decide_eq_false (by omega)]
  show FP.Core.roundRatio FP.Core.b32 false (n : Int).natAbs 1 0 = _
  rw [Int.natAbs_natCast, rr_one h (by omega) (by omega)]
  exact congrArg (FP.Core.Datum.fin false _) (by omega)
/-- the share's bits -/
def shN (a b : Nat) : Nat := (eN a + eN (stk (cN a * 4294967296) (cN b)) - eN b - 182) * 8388608 + (cN (stk (cN a * 4294967296) (cN b)) - 8388608)
theorem sh_fl {a b : Nat} (ha : a ≠ 0) (hab : a * 16 ≤ b) (hb : b < 2 ^ 63) : (FP.fdiv (FP.l2f (lN a)) (FP.l2f (lN b))).toNat = shN a b ∧ eN b + 184 ≤ eN a + eN (stk (cN a * 4294967296) (cN b)) ∧ eN a + eN (stk (cN a * 4294967296) (cN b)) ≤ eN b + 308 := by
  have hb0 : b ≠ 0 := by omega
  have hla : a.log2 + 4 ≤ b.log2 := by
    rw [Nat.le_log2 hb0, Nat.pow_add]
    have := Nat.log2_self_le ha
    omega
  have hlb : b.log2 < 63 := (Nat.log2_lt hb0).mpr hb
  obtain ⟨ca1, ca2⟩ := cN_ok ha
  obtain ⟨cb1, cb2⟩ := cN_ok hb0
  have ea := eN_ok a
  have eb := eN_ok b
  have hs := stk_lg ca1 ca2 cb1 cb2
  obtain ⟨n, hn⟩ : ∃ n, n = stk (cN a * 4294967296) (cN b) := ⟨_, rfl⟩
  unfold shN
  rw [← hn] at hs ⊢
  have hn0 : n ≠ 0 := by omega
  have hln : 31 ≤ n.log2 ∧ n.log2 ≤ 32 := by
    have l1 : 31 ≤ n.log2 := by rw [Nat.le_log2 hn0]; omega
    have l2 : n.log2 < 33 := (Nat.log2_lt hn0).mpr (by omega)
    omega
  have en := eN_ok n
  obtain ⟨cn1, cn2⟩ := cN_ok hn0
  have hv : FP.Core.val32 (FP.Core.fdiv (FP.Core.l2f (lN a)) (FP.Core.l2f (lN b))) = .fin false (cN n) ((eN a : Int) - eN b - 32 + eN n - 300) := by
    rw [FP.Core.val32_fdiv, l2f_cN ha (by omega), l2f_cN hb0 hb]
    show (if cN b = 0 then _ else _) = _
    rw [if_neg (by omega)]
    show FP.Core.roundRatio FP.Core.b32 false (cN a) (cN b) _ = _
    rw [qt_rr ca1 ca2 cb1 cb2 (by omega), ← hn, rr_one hn0 (by omega) (by omega)]
    exact congrArg (FP.Core.Datum.fin false _) (by omega)
  have hf := fo_of hv cn1 cn2 (by omega) (by omega)
  refine ⟨?_, by omega, by omega⟩
  show (FP.Core.fdiv (FP.Core.l2f (lN a)) (FP.Core.l2f (lN b))).toNat = _
  rw [hf, fo_nat (by omega) (by omega)]
  omega
theorem or_1 (n : Nat) : n ||| 1 = 2 * (n / 2) + 1 := by
  have e : 2 * (n / 2) + 1 = 2 * (n / 2) ||| 1 := by
    have := Nat.two_pow_add_eq_or_of_lt (i := 1) (b := 1) (by decide) (n / 2)
    rw [Nat.pow_one] at this
    exact this
  rcases Nat.mod_two_eq_zero_or_one n with h | h
  · rw [e, show 2 * (n / 2) = n by omega]
  · have : n = 2 * (n / 2) ||| 1 := by rw [← e]; omega
    rw [e]
    exact (congrArg (· ||| 1) this).trans ((Nat.or_assoc _ _ _).trans (congrArg (2 * (n / 2) ||| ·) (Nat.or_self 1)))
