def fo (E m : Nat) : UInt32 := UInt32.ofNat (E * 8388608 + m)
theorem fo_nat {E m : Nat} (hE : E ≤ 254) (hm : m < 8388608) : (fo E m).toNat = E * 8388608 + m := by
  unfold fo
  exact UInt32.toNat_ofNat_of_lt' (show E * 8388608 + m < 4294967296 by omega)
theorem fo_val {E m : Nat} (h1 : 1 ≤ E) (hE : E ≤ 254) (hm : m < 8388608) : FP.Core.val32 (fo E m) = .fin false (8388608 + m) ((E : Int) - 150) := by
  unfold FP.Core.val32
  rw [fo_nat hE hm, show E * 8388608 + m = FP.Core.assemble FP.Core.b32 false E m by unfold FP.Core.assemble FP.Core.Fmt.tails FP.Core.b32; simp]
  rw [FP.Core.decode_assemble _ _ _ _ (show E < 256 by omega) (show m < 8388608 from hm)]
  rw [if_neg (show ¬ E = FP.Core.b32.exps - 1 from show ¬ E = 255 by omega), if_neg (by omega)]
  show FP.Core.Datum.fin false (8388608 + m) (-149 + ((E : Int) - 1)) = _
  rw [show (-149 + ((E : Int) - 1)) = (E : Int) - 150 by omega]
theorem fo_nn {E m : Nat} (h1 : 1 ≤ E) (hE : E ≤ 254) (hm : m < 8388608) : FP.Core.val32 (fo E m) ≠ .nan := by
  rw [fo_val h1 hE hm]
  exact fun h => by cases h
theorem ft {s : Bool} {c : Nat} {q : Int} (h1 : 8388608 ≤ c) (h2 : c < 16777216) (h3 : -149 ≤ q) (h4 : q ≤ 104) : FP.Core.fits FP.Core.b32 (.fin s c q) := ⟨h2, h3, h4, .inr h1⟩
theorem fo_of {x : UInt32} {c : Nat} {q : Int} (h : FP.Core.val32 x = .fin false c q) (h1 : 8388608 ≤ c) (h2 : c < 16777216) (h3 : -149 ≤ q) (h4 : q ≤ 104) : x = fo (q + 150).toNat (c - 8388608) := by
  have e1 : ((q + 150).toNat : Int) - 150 = q := by omega
  refine FP.Core.val32_inj (by rw [h]; exact fun z => by cases z) (h.trans ?_)
  rw [fo_val (by omega) (by omega) (by omega), e1, show 8388608 + (c - 8388608) = c by omega]
theorem fo_two {E m : Nat} (h1 : 1 ≤ E) (hE : E ≤ 253) (hm : m < 8388608) : FP.fmul (fo E m) 1073741824 = fo (E + 1) m := by
  have hv : FP.Core.val32 (FP.fmul (fo E m) 1073741824) = FP.Core.val32 (fo (E + 1) m) := by
    show FP.Core.val32 (FP.Core.fmul (fo E m) 1073741824) = _
    rw [FP.Core.val32_fmul, fo_val h1 (by omega) hm, fo_val (by omega) (by omega) hm, show FP.Core.val32 1073741824 = .fin false 8388608 (-22) by decide +kernel]
    show FP.Core.roundRatio FP.Core.b32 false ((8388608 + m) * 8388608) 1 ((E : Int) - 150 + -22) = _
    refine FP.Core.roundRatio_exact FP.Core.good_b32 (by decide) (ft (by omega) (by omega) (by omega) (by omega)) ?_
    rw [show ((E : Int) - 150 + -22 - (((E + 1 : Nat) : Int) - 150)).toNat = 0 by omega, show ((((E + 1 : Nat) : Int) - 150) - ((E : Int) - 150 + -22)).toNat = 23 by omega]
    omega
  exact FP.Core.val32_inj (fun z => fo_nn (E := E + 1) (m := m) (by omega) (by omega) hm (hv ▸ z)) hv
theorem fo_key {E m : Nat} (hE : E ≤ 254) (hm : m < 8388608) : FP.Core.fkey (fo E m) = ((E * 8388608 + m : Nat) : Int) := by
  unfold FP.Core.fkey
  rw [fo_nat hE hm, if_neg (by omega)]
theorem one_nn : FP.Core.val32 1065353216 ≠ .nan := by decide +kernel
theorem two_nn : FP.Core.val32 1073741824 ≠ .nan := by decide +kernel
theorem one_key : FP.Core.fkey 1065353216 = 1065353216 := by decide +kernel
theorem two_key : FP.Core.fkey 1073741824 = 1073741824 := by decide +kernel
theorem fo_lt1 {E m : Nat} (h1 : 1 ≤ E) (hE : E ≤ 126) (hm : m < 8388608) : FP.fcmp (fo E m) 1065353216 = some .lt :=
  (FP.Core.fcmp_lt_key (fo_nn h1 (by omega) hm) one_nn).mpr (by rw [fo_key (by omega) hm, one_key]; omega)
theorem fo_ge1 {m : Nat} (hm : m < 8388608) : FP.fcmp (fo 127 m) 1065353216 ≠ some .lt := fun h => by
  have := (FP.Core.fcmp_lt_key (fo_nn (by omega) (by omega) hm) one_nn).mp h
  rw [fo_key (by omega) hm, one_key] at this
  omega
theorem fo_lt2 {E m : Nat} (h1 : 1 ≤ E) (hE : E ≤ 127) (hm : m < 8388608) : FP.fcmp (fo E m) 1073741824 = some .lt :=
  (FP.Core.fcmp_lt_key (fo_nn h1 (by omega) hm) two_nn).mpr (by rw [fo_key (by omega) hm, two_key]; omega)
/-- the digits under the leading one, read off by (x - 1) * 2^23 -/
theorem fo_dd {m : Nat} (hm : m < 8388608) : FP.f2i (FP.fmul (FP.fsub (fo 127 m) 1065353216) 1258291200) = nI m ∧ FP.Core.val32 (FP.fsub (fo 127 m) 1065353216) ≠ .nan ∧ FP.Core.val32 (FP.fmul (FP.fsub (fo 127 m) 1065353216) 1258291200) ≠ .nan := by
  have hs : FP.Core.val32 (FP.Core.fsub (fo 127 m) 1065353216) = FP.Core.round FP.Core.b32 (.fin false m (-23)) := by
    rw [FP.Core.val32_fsub, fo_val (by omega) (by omega) hm, show FP.Core.val32 1065353216 = .fin false 8388608 (-23) by decide +kernel]
    refine congrArg (FP.Core.round FP.Core.b32) ?_
    show FP.Core.Datum.fin (FP.Core.sumSign false true (FP.Core.sumUnits false (8388608 + m) (-23) true 8388608 (-23) (-23))) (FP.Core.sumUnits false (8388608 + m) (-23) true 8388608 (-23) (-23)).natAbs (-23) = _
    have e : FP.Core.sumUnits false (8388608 + m) (-23) true 8388608 (-23) (-23) = (m : Int) := by
      unfold FP.Core.sumUnits FP.Core.inUnits FP.Core.signed
      rw [show ((-23 : Int) - -23).toNat = 0 by decide]
      simp only [Bool.false_eq_true, if_false, if_true]
      omega
    rw [e]
    have : FP.Core.sumSign false true (m : Int) = false := by
      unfold FP.Core.sumSign
      split
      · rfl
      · exact decide_eq_false (by omega)
    rw [this]
    rfl
  by_cases h0 : m = 0
  · subst h0
    decide +kernel
  · obtain ⟨k, hk1, hk2⟩ : ∃ k : Nat, m * 2 ^ k < 16777216 ∧ 8388608 ≤ m * 2 ^ k ∧ 1 ≤ k ∧ k ≤ 23 := by
      have a1 : 2 ^ m.log2 ≤ m := Nat.log2_self_le h0
      have a2 : m < 2 ^ (m.log2 + 1) := Nat.lt_log2_self
      have a3 : m.log2 < 23 := by
        refine Classical.byContradiction fun h => ?_
        have := Nat.pow_le_pow_right (n := 2) (by omega) (show 23 ≤ m.log2 by omega)
        omega
      refine ⟨23 - m.log2, ?_, ?_, by omega, by omega⟩
      · have := Nat.mul_lt_mul_of_pos_right a2 (Nat.two_pow_pos (23 - m.log2))
        rw [← Nat.pow_add, show m.log2 + 1 + (23 - m.log2) = 24 by omega] at this
        exact this
      · have := Nat.mul_le_mul_right (2 ^ (23 - m.log2)) a1
        rw [← Nat.pow_add, show m.log2 + (23 - m.log2) = 23 by omega] at this
        exact this
    obtain ⟨hk3, hk4, hk5⟩ := hk2
    have hs2 : FP.Core.val32 (FP.Core.fsub (fo 127 m) 1065353216) = .fin false (m * 2 ^ k) (-23 - k) := by
      rw [hs]
      show FP.Core.roundRatio FP.Core.b32 false m 1 (-23) = _
      refine FP.Core.roundRatio_exact FP.Core.good_b32 (by decide) (ft hk3 hk1 (by omega) (by omega)) ?_
      rw [show ((-23 : Int) - (-23 - k)).toNat = k by omega, show (((-23 : Int) - k) - -23).toNat = 0 by omega]
      omega
    have hm2 : FP.Core.val32 (FP.Core.fmul (FP.Core.fsub (fo 127 m) 1065353216) 1258291200) = .fin false (m * 2 ^ k) (-k) := by
      rw [FP.Core.val32_fmul, hs2, show FP.Core.val32 1258291200 = .fin false 8388608 0 by decide +kernel]
      show FP.Core.roundRatio FP.Core.b32 false (m * 2 ^ k * 8388608) 1 (-23 - k + 0) = _
      refine FP.Core.roundRatio_exact FP.Core.good_b32 (by decide) (ft hk3 hk1 (by omega) (by omega)) ?_
      rw [show ((-23 : Int) - k + 0 - -k).toNat = 0 by omega, show ((-k : Int) - (-23 - k + 0)).toNat = 23 by omega]
      omega
    refine ⟨?_, by show FP.Core.val32 (FP.Core.fsub (fo 127 m) 1065353216) ≠ .nan; rw [hs2]; exact (fun z => by cases z), by show FP.Core.val32 (FP.Core.fmul (FP.Core.fsub (fo 127 m) 1065353216) 1258291200) ≠ .nan; rw [hm2]; exact (fun z => by cases z)⟩
    show FP.Core.toI (FP.Core.val32 (FP.Core.fmul (FP.Core.fsub (fo 127 m) 1065353216) 1258291200)) = nI m
    rw [hm2]
    show Int32.ofInt (max (-2147483648) (min 2147483647 (FP.Core.truncate false (m * 2 ^ k) (-k)))) = nI m
    have : FP.Core.truncate false (m * 2 ^ k) (-k) = (m : Int) := by
      unfold FP.Core.truncate FP.Core.signed
      rw [show ((-k : Int)).toNat = 0 by omega, show (- -(k : Int)).toNat = k by omega]
      simp only [Bool.false_eq_true, if_false, Nat.pow_zero, Nat.mul_one]
      rw [Nat.mul_div_cancel _ (Nat.two_pow_pos k)]
    rw [this, show max (-2147483648) (min 2147483647 (m : Int)) = (m : Int) by omega]
    rfl
theorem fo_dig {m : Nat} (hm : m < 8388608) : FP.f2i (FP.fmul (FP.fsub (fo 127 m) 1065353216) 1258291200) = nI m := (fo_dd hm).1
theorem fo_ds {m : Nat} (hm : m < 8388608) : FP.Core.val32 (FP.fsub (fo 127 m) 1065353216) ≠ .nan ∧ FP.Core.val32 (FP.fmul (FP.fsub (fo 127 m) 1065353216) 1258291200) ≠ .nan := (fo_dd hm).2
theorem rr_lead {s : Bool} {A B : Nat} {e : Int} (hA : 0 < A) (hB : 0 < B) (h1 : -126 ≤ FP.Core.leading A B + e) (h2 : FP.Core.leading A B + e ≤ 126) : ∃ (c : Nat) (q : Int), FP.Core.roundRatio FP.Core.b32 s A B e = .fin s c q ∧ 8388608 ≤ c ∧ c < 16777216 ∧ FP.Core.leading A B + e - 23 ≤ q ∧ q ≤ FP.Core.leading A B + e - 22 := by
  obtain ⟨L, hL⟩ : ∃ L, L = FP.Core.leading A B := ⟨_, rfl⟩
  rw [← hL] at h1 h2 ⊢
  have hs := FP.Core.leading_spec hA hB
  rw [← hL] at hs
  have hq : FP.Core.quantum FP.Core.b32 A B e = L + e - 23 := by
    unfold FP.Core.quantum
    rw [← hL]
    show max (-149 : Int) (L + e - ((24 : Int) - 1)) = _
    omega
  have hn1 := FP.Core.nearest_units_le (f := FP.Core.b32) hA hB e
  rw [hq] at hn1
  have hn2 : 8388608 ≤ FP.Core.nearest (FP.Core.unitsNum A e (L + e - 23)) (FP.Core.unitsDen B e (L + e - 23)) := by
    refine FP.Core.nearest_ge (FP.Core.unitsDen_pos hB _ _) (Nat.le_of_not_lt fun h => hs.1 ?_)
    have := (FP.Core.units_below A B e (L + e - 23) 23).mp h
    rwa [show L + e - 23 - e + ((23 : Nat) : Int) = L by omega] at this
  unfold FP.Core.roundRatio
  rw [if_neg (by omega), hq]
  unfold FP.Core.roundAt FP.Core.settle
  obtain ⟨n, hn⟩ : ∃ n, n = FP.Core.nearest (FP.Core.unitsNum A e (L + e - 23)) (FP.Core.unitsDen B e (L + e - 23)) := ⟨_, rfl⟩
  rw [← hn] at hn1 hn2 ⊢
  unfold FP.Core.bound
  have h104 : FP.Core.b32.qmax = 104 := by decide +kernel
  rw [h104]
  by_cases h : n < 2 ^ FP.Core.b32.p
  · rw [if_pos h, if_pos (by omega)]
    exact ⟨n, _, rfl, hn2, h, by omega, by omega⟩
  · rw [if_neg h, if_pos (by omega)]
    exact ⟨8388608, _, rfl, by omega, by omega, by omega, by omega⟩
theorem lead_one {n : Nat} (h : n ≠ 0) : FP.Core.leading n 1 = n.log2 := by
  unfold FP.Core.leading
  have e : (Nat.log2 1) = 0 := by decide
  have := Nat.log2_self_le h
  simp only [e]
  rw [if_pos (by rw [show ((n.log2 : Int) - ((0 : Nat) : Int)).toNat = n.log2 by omega, show (-((n.log2 : Int) - ((0 : Nat) : Int))).toNat = 0 by omega]; omega)]
  omega
theorem lead_24 {a b : Nat} (h1 : 8388608 ≤ a) (h2 : a < 16777216) (h3 : 8388608 ≤ b) (h4 : b < 16777216) : -1 ≤ FP.Core.leading a b ∧ FP.Core.leading a b ≤ 0 := by
  have ea : a.log2 = 23 := (Nat.log2_eq_iff (by omega)).mpr ⟨h1, h2⟩
  have eb : b.log2 = 23 := (Nat.log2_eq_iff (by omega)).mpr ⟨h3, h4⟩
  unfold FP.Core.leading
  rw [ea, eb]
  simp only
  split <;> omega
theorem l2f_val {n : Int64} (h : 0 < n.toInt) : ∃ (c : Nat) (q : Int), FP.Core.val32 (FP.Core.l2f n) = .fin false c q ∧ 8388608 ≤ c ∧ c < 16777216 ∧ (n.toInt.natAbs.log2 : Int) - 23 ≤ q ∧ q ≤ (n.toInt.natAbs.log2 : Int) - 22 := by
  have hn : n.toInt.natAbs ≠ 0 := by omega
  have hb : n.toInt.natAbs < 2 ^ 63 := by
    have := n.toInt_lt
    omega
  have hl : n.toInt.natAbs.log2 < 63 := (Nat.log2_lt hn).mpr hb
  obtain ⟨c, q, e1, e2, e3, e4, e5⟩ := rr_lead (s := false) (A := n.toInt.natAbs) (B := 1) (e := 0) (by omega) (by omega) (by rw [lead_one hn]; omega) (by rw [lead_one hn]; omega)
  rw [lead_one hn] at e4 e5
  refine ⟨c, q, ?_, e2, e3, by omega, by omega⟩
  rw [FP.Core.val32_l2f, ← e1]
  unfold FP.Core.ofInt
  rw [decide_eq_false (by omega)]
  rfl
theorem fdiv_fo {a b : Int64} (ha : 0 < a.toInt) (hab : a.toInt * 16 ≤ b.toInt) : ∃ E m, 2 ≤ E ∧ E ≤ 126 ∧ m < 8388608 ∧ FP.fdiv (FP.l2f a) (FP.l2f b) = fo E m := by
  obtain ⟨c, q, a1, a2, a3, a4, a5⟩ := l2f_val ha
  obtain ⟨d, r, b1, b2, b3, b4, b5⟩ := l2f_val (n := b) (by omega)
  have hla : a.toInt.natAbs.log2 + 4 ≤ b.toInt.natAbs.log2 := by
    rw [Nat.le_log2 (by omega), Nat.pow_add]
    have := Nat.log2_self_le (n := a.toInt.natAbs) (by omega)
    omega
  have hb : b.toInt.natAbs.log2 < 63 := (Nat.log2_lt (by omega)).mpr (by have := b.toInt_lt; omega)
  obtain ⟨l1, l2⟩ := lead_24 a2 a3 b2 b3
  obtain ⟨x, y, e1, e2, e3, e4, e5⟩ := rr_lead (s := false) (A := c) (B := d) (e := q - r) (by omega) (by omega) (by omega) (by omega)
  have hv : FP.Core.val32 (FP.Core.fdiv (FP.Core.l2f a) (FP.Core.l2f b)) = .fin false x y := by
    rw [FP.Core.val32_fdiv, a1, b1, ← e1]
    show (if d = 0 then _ else _) = _
    rw [if_neg (by omega)]
    rfl
  exact ⟨(y + 150).toNat, x - 8388608, by omega, by omega, by omega, fo_of hv e2 e3 (by omega) (by omega)⟩
theorem fo_n32 {E m : Nat} (hE : E ≤ 254) (hm : m < 8388608) : vf_n32 (fo E m) := by
  unfold vf_n32
  rw [UInt32.le_iff_toNat_le, UInt32.toNat_and, fo_nat hE hm]
  exact Nat.le_trans Nat.and_le_left (show E * 8388608 + m ≤ 2139095040 by omega)
section GFL
variable {p : Program} {l : Launch} {e : Env} {R : Room} {s : State} {m : MethodId} {args : Array Value} {below : List Frame} {meth : Method} {c : Code} {D : va_G} {A : Nat → Prop} {nL kc ks : Nat} {cc : ByteArray} {own : String} {cI cJ cZ : ClassId} {Q : State → Prop} {ws ws' : va_W} {lv lv' : List (Nat × Value)} {pc : Nat} {st : List Value} {Φ : Option Value → va_W → Prop}
theorem g_l2f (X : g_Cx p s m args c D A nL cc own cI cJ cZ) {x : Int64} (hd : decode cc pc = .ok (.l2f, 1)) (kk : g_G p l e R s m args below meth c D A nL kc ks Q ws lv (pc + 1) (.float (FP.l2f x) :: st)) : g_G p l e R s m args below meth c D A nL kc ks Q ws lv pc (.long x :: st) := fun H locs ls hP hD hS hl => lv_l2f X.1 X.2.1 hd (kk H locs ls hP hD hS hl)
theorem g_f2i (X : g_Cx p s m args c D A nL cc own cI cJ cZ) {x : UInt32} (hd : decode cc pc = .ok (.f2i, 1)) (kk : g_G p l e R s m args below meth c D A nL kc ks Q ws lv (pc + 1) (.int (FP.f2i x) :: st)) : g_G p l e R s m args below meth c D A nL kc ks Q ws lv pc (.float x :: st) := fun H locs ls hP hD hS hl => lv_f2i X.1 X.2.1 hd (kk H locs ls hP hD hS hl)
theorem g_fsub (X : g_Cx p s m args c D A nL cc own cI cJ cZ) {x y : UInt32} (hd : decode cc pc = .ok (.fsub, 1)) (hne : vf_n32 (FP.fsub x y)) (kk : g_G p l e R s m args below meth c D A nL kc ks Q ws lv (pc + 1) (.float (FP.fsub x y) :: st)) : g_G p l e R s m args below meth c D A nL kc ks Q ws lv pc (.float y :: .float x :: st) := fun H locs ls hP hD hS hl => lv_fsub X.1 X.2.1 hd hne (kk H locs ls hP hD hS hl)
theorem g_fmul (X : g_Cx p s m args c D A nL cc own cI cJ cZ) {x y : UInt32} (hd : decode cc pc = .ok (.fmul, 1)) (hne : vf_n32 (FP.fmul x y)) (kk : g_G p l e R s m args below meth c D A nL kc ks Q ws lv (pc + 1) (.float (FP.fmul x y) :: st)) : g_G p l e R s m args below meth c D A nL kc ks Q ws lv pc (.float y :: .float x :: st) := fun H locs ls hP hD hS hl => lv_fmul X.1 X.2.1 hd hne (kk H locs ls hP hD hS hl)
theorem g_fdiv (X : g_Cx p s m args c D A nL cc own cI cJ cZ) {x y : UInt32} (hd : decode cc pc = .ok (.fdiv, 1)) (hne : vf_n32 (FP.fdiv x y)) (kk : g_G p l e R s m args below meth c D A nL kc ks Q ws lv (pc + 1) (.float (FP.fdiv x y) :: st)) : g_G p l e R s m args below meth c D A nL kc ks Q ws lv pc (.float y :: .float x :: st) := fun H locs ls hP hD hS hl => lv_fdiv X.1 X.2.1 hd hne (kk H locs ls hP hD hS hl)
theorem g_fcmp (X : g_Cx p s m args c D A nL cc own cI cJ cZ) {x y : UInt32} {op : CmpOp} (hd : decode cc pc = .ok (.fcmp op, 1)) (kk : g_G p l e R s m args below meth c D A nL kc ks Q ws lv (pc + 1) (.int (Op.cmpValue (FP.fcmp x y) op) :: st)) : g_G p l e R s m args below meth c D A nL kc ks Q ws lv pc (.float y :: .float x :: st) := fun H locs ls hP hD hS hl => lv_fcmp X.1 X.2.1 hd (kk H locs ls hP hD hS hl)
theorem g_fconst1 (X : g_Cx p s m args c D A nL cc own cI cJ cZ) (hd : decode cc pc = .ok (.fconst 1, 1)) (kk : g_G p l e R s m args below meth c D A nL kc ks Q ws lv (pc + 1) (.float 1065353216 :: st)) : g_G p l e R s m args below meth c D A nL kc ks Q ws lv pc (st) := fun H locs ls hP hD hS hl => lv_fconst1 X.1 X.2.1 hd (kk H locs ls hP hD hS hl)
theorem g_fconst2 (X : g_Cx p s m args c D A nL cc own cI cJ cZ) (hd : decode cc pc = .ok (.fconst 2, 1)) (kk : g_G p l e R s m args below meth c D A nL kc ks Q ws lv (pc + 1) (.float 1073741824 :: st)) : g_G p l e R s m args below meth c D A nL kc ks Q ws lv pc (st) := fun H locs ls hP hD hS hl => lv_fconst2 X.1 X.2.1 hd (kk H locs ls hP hD hS hl)
end GFL
theorem f_n32 {x : UInt32} (h : FP.Core.val32 x ≠ .nan) : vf_n32 x := by
  have h1 : ¬ 2139095040 < x.toNat % 2 ^ 31 := fun z => h ((FP.Core.fIsNaN_iff x).mp ((FP.Core.isNaN_bits32 x).mpr z))
  unfold vf_n32
  rw [UInt32.le_iff_toNat_le, UInt32.toNat_and, show (0x7fffffff : UInt32).toNat = 2 ^ 31 - 1 from rfl, Nat.and_two_pow_sub_one_eq_mod]
  show x.toNat % 2 ^ 31 ≤ 2139095040
  omega
theorem cmp_g (r : Option Ordering) : Op.cmpValue r .g = FP.Core.cmpInt 1 r := by rcases r with _ | (_ | _ | _) <;> rfl
theorem fo_shl {E : Nat} (h : E ≤ 126) : nI E <<< (nI 23 &&& 31) = nI (E * 8388608) := by
  have : ∀ E : Fin 127, nI E <<< (nI 23 &&& 31) = nI (E * 8388608) := by decide +kernel
  exact this ⟨E, by omega⟩
theorem fo_or {E m : Nat} (h : m < 8388608) : nI (E * 8388608) ||| nI m = nI (E * 8388608 + m) := by
  have e1 : E * 8388608 + m = E * 8388608 ||| m := by
    have := Nat.two_pow_add_eq_or_of_lt (i := 23) (b := m) h E
    rw [Nat.mul_comm] at this
    exact this
  rw [e1]
  unfold nI
  exact (congrArg Int32.ofBitVec (BitVec.ofNat_or (w := 32) (x := E * 8388608) (y := m))).symm
theorem fo_dn1 {m : Nat} (hm : m < 8388608) : vf_n32 (FP.fsub (fo 127 m) 1065353216) ∧ vf_n32 (FP.fmul (FP.fsub (fo 127 m) 1065353216) 1258291200) := by
  have h := fo_ds hm
  exact ⟨f_n32 h.1, f_n32 h.2⟩

theorem nI_dec1 {k : Nat} (h : k + 1 ≤ 127) : nI (127 - k) + Int32.ofInt (-1) = nI (127 - (k + 1)) := by
  have : ∀ k : Fin 127, nI (127 - k) + Int32.ofInt (-1) = nI (127 - (k + 1)) := by decide +kernel
  exact this ⟨k, by omega⟩
