/-! what is known of wells and springs -/
def plN (C : Cf) (w : Nat) : Nat := (C 2 w).toNatClampNeg
def Cok (C : Cf) (N : Nat → Nat) : Prop := N 0 ≤ 10 ∧ N 1 ≤ 6 ∧ N 2 ≤ 4 ∧ (∀ w, w < N 0 → C 2 w = nI (plN C w) ∧ plN C w < 12) ∧ (∀ w, w < N 0 → C 4 w = nI (muN C w) ∧ muN C w ≤ 1000) ∧ (∀ k, k < N 2 → C 7 k = nI (spN C k) ∧ spN C k < 12)
theorem Cok.n0 {C : Cf} {N : Nat → Nat} (h : Cok C N) : N 0 ≤ 10 := h.1
theorem Cok.n1 {C : Cf} {N : Nat → Nat} (h : Cok C N) : N 1 ≤ 6 := h.2.1
theorem Cok.n2 {C : Cf} {N : Nat → Nat} (h : Cok C N) : N 2 ≤ 4 := h.2.2.1
theorem Cok.pl {C : Cf} {N : Nat → Nat} (h : Cok C N) {w : Nat} (hw : w < N 0) : C 2 w = nI (plN C w) ∧ plN C w < 12 := h.2.2.2.1 w hw
theorem Cok.mu {C : Cf} {N : Nat → Nat} (h : Cok C N) {w : Nat} (hw : w < N 0) : C 4 w = nI (muN C w) ∧ muN C w ≤ 1000 := h.2.2.2.2.1 w hw
theorem Cok.sp {C : Cf} {N : Nat → Nat} (h : Cok C N) {k : Nat} (hk : k < N 2) : C 7 k = nI (spN C k) ∧ spN C k < 12 := h.2.2.2.2.2 k hk
def anyB : Nat → (Nat → Bool) → Bool
  | 0, _ => false
  | n + 1, f => anyB n f || f n
theorem anyB_t {f : Nat → Bool} : ∀ {n i : Nat}, i < n → f i = true → anyB n f = true
  | 0, i, h, _ => absurd h (Nat.not_lt_zero i)
  | n + 1, i, h, e => by
    unfold anyB
    by_cases hi : i = n
    · subst hi; rw [e, Bool.or_true]
    · rw [anyB_t (by omega : i < n) e, Bool.true_or]
theorem anyB_s {f : Nat → Bool} {n : Nat} (h : anyB n f = false) (e : f n = false) : anyB (n + 1) f = false := by
  unfold anyB
  rw [h, e]; rfl
def bL (b : Bool) : Int64 := if b = true then 1 else 0
theorem bL_32 (b : Bool) : (bL b).toInt32 = bI b := by cases b <;> decide
/-- is a spring dry near the block b -/
def dryB (C : Cf) (S : St) (b k : Nat) : Bool := if nearS C k b = false then false else decide (S 0 (spN C k) < (C 9 k).toInt64)
def mst (C : Cf) (N : Nat → Nat) (S : St) (w : Nat) : Bool := if C 3 w = 0 then anyB (N 2) (dryB C S (plN C w)) else decide (lig S (plN C w) = 2)
def shW (C : Cf) (N : Nat → Nat) (w : Nat) (S : St) : St := u2 (u2 S 5 w 0) 6 w (bL (mst C N (u2 S 5 w 0) w))

theorem hV_X0_mustShut : yX0_mustShut.cls = RX0 ∧ yX0_mustShut.cls ≠ "java/lang/invoke/MethodHandle" ∧ yX0_mustShut.cls ≠ "java/lang/invoke/VarHandle" ∧ (parseMethodDescriptor yX0_mustShut.desc).map (fun d => d.parameters.length) = some 1 := by decide +kernel
abbrev rm_X0_mustShut : Room := { frames := 2, cells := 0, slots := 0, locals := 44 }
set_option maxRecDepth 100000 in
set_option maxHeartbeats 4000000 in
theorem m_X0_mustShut (l : Launch) (D : va_G) (cI cJ cZ : ClassId) (f : Nat → Nat) (C : Cf) (N : Nat → Nat) (S : St) (Qk : Nat → Int64) (Z : St) (w : Nat) (hC : Cok C N) (hw : w < N 0) : g_Ct l D cI cJ cZ yX0_mustShut cX0_mustShut 4 (some .boolean) rm_X0_mustShut 0 0 [.ref (f 0), .int (nI w)] (wF f cI cJ cZ C N S Qk Z) (g_eq (some (.int (bI (mst C N S w)))) (wF f cI cJ cZ C N S Qk Z)) := by
  refine g_body RX0 [(0, .ref (f 0)), (1, .int (nI w))] kH_X0 rfl (Nat.le_of_ble_eq_true rfl) rfl ?_
  intro p e s m args below meth c A X hr hlk hmn Q hQ
  have hN0 := hC.n0
  have hN1 := hC.n1
  have hN2 := hC.n2
  have hpl := (hC.pl hw).2
  have hlig := lig_3 S (plN C w)
  refine g_aload_n X 0 dX0_mustShut_0 rfl rfl ?_
  refine g_get X (C := RX0) (T := TX0) (N := 11) (v := .ref (f 11)) inlX0 0 rfl rfl 3 (Nat.le_of_ble_eq_true rfl) kF_X0_28 rfl dX0_mustShut_1 ?_
  refine g_get X (C := RX5) (T := TX5) (N := 9) (v := .ref (f 12)) inlX5 11 rfl rfl 1 (Nat.le_of_ble_eq_true rfl) kF_X0_121 rfl dX0_mustShut_4 ?_
  refine g_iload_n X 1 dX0_mustShut_7 rfl rfl ?_
  refine g_iald X 12 rfl (w) rfl (by omega) (Nat.le_of_ble_eq_true rfl) (v := nI (plN C w)) (hC.pl hw).1 dX0_mustShut_8 ?_
  refine g_istore_n X [(2, .int (nI (plN C w))), (0, .ref (f 0)), (1, .int (nI w))] dX0_mustShut_9 rfl (Nat.le_of_ble_eq_true rfl) rfl ?_
  refine g_aload_n X 1 dX0_mustShut_10 rfl rfl ?_
  refine g_get X (C := RX0) (T := TX0) (N := 11) (v := .ref (f 11)) inlX0 0 rfl rfl 3 (Nat.le_of_ble_eq_true rfl) kF_X0_28 rfl dX0_mustShut_11 ?_
  refine g_get X (C := RX5) (T := TX5) (N := 9) (v := .ref (f 13)) inlX5 11 rfl rfl 2 (Nat.le_of_ble_eq_true rfl) kF_X0_125 rfl dX0_mustShut_14 ?_
  refine g_iload_n X 2 dX0_mustShut_17 rfl rfl ?_
  refine g_zald X 13 rfl (w) rfl (by omega) (Nat.le_of_ble_eq_true rfl) (v := C 3 w) rfl dX0_mustShut_18 ?_
  refine g_if_eq X (tgt := 40) dX0_mustShut_19 (by decide) (fun h1 => ?_) (fun h1 => ?_)
  · --
    refine g_iconst X (v := nI 0) dX0_mustShut_40 (by decide +kernel) ?_
    refine g_istore_n X [(3, .int (nI 0)), (2, .int (nI (plN C w))), (0, .ref (f 0)), (1, .int (nI w))] dX0_mustShut_41 rfl (Nat.le_of_ble_eq_true rfl) rfl ?_
    have L2 : ∀ (n4 i3 : Nat) , i3 + n4 = (N 2) → anyB i3 (dryB C S (plN C w)) = false → g_G p l e rm_X0_mustShut s m args below meth c D A 4 0 0 Q (wF f cI cJ cZ C N S Qk Z) [(0, .ref (f 0)), (2, .int (nI (plN C w))), (3, .int (nI i3))] 42 [] := by
      intro n4
      induction n4 with
      | zero =>
        intro i3  hi5  hany
        obtain rfl : i3 = (N 2) := by omega
        refine g_iload_n X 2 dX0_mustShut_42 rfl rfl ?_
        refine g_aload_n X 0 dX0_mustShut_43 rfl rfl ?_
        refine g_get X (C := RX0) (T := TX0) (N := 11) (v := .ref (f 23)) inlX0 0 rfl rfl 5 (Nat.le_of_ble_eq_true rfl) kF_X0_42 rfl dX0_mustShut_44 ?_
        refine g_get X (C := RX3) (T := TX3) (N := 7) (v := .int (nI (N 2))) inlX3 23 rfl rfl 0 (Nat.le_of_ble_eq_true rfl) kF_X0_132 rfl dX0_mustShut_47 ?_
        refine g_icN_ge X (a := (N 2)) (b := N 2) (tgt := 104) (by omega) (by omega) dX0_mustShut_50 (by decide) (fun h6 => ?_) (fun h6 => absurd h6 (by omega))
        refine g_iconst X (v := nI 0) dX0_mustShut_104 (by decide +kernel) ?_
        refine g_zret X hr hlk hQ (by decide +kernel) dX0_mustShut_105 ?_
        show g_eq _ _ _ _
        refine ⟨congrArg (fun z => some (Value.int z)) (?_ : bI false = _), rfl⟩
        refine congrArg bI ?_
        unfold mst
        rw [if_pos (by assumption)]
        exact hany.symm
      | succ n4 ihL2 =>
        intro i3  hi5  hany
        have hlti3 : i3 < (N 2) := by omega
        refine g_iload_n X 2 dX0_mustShut_42 rfl rfl ?_
        refine g_aload_n X 0 dX0_mustShut_43 rfl rfl ?_
        refine g_get X (C := RX0) (T := TX0) (N := 11) (v := .ref (f 23)) inlX0 0 rfl rfl 5 (Nat.le_of_ble_eq_true rfl) kF_X0_42 rfl dX0_mustShut_44 ?_
        refine g_get X (C := RX3) (T := TX3) (N := 7) (v := .int (nI (N 2))) inlX3 23 rfl rfl 0 (Nat.le_of_ble_eq_true rfl) kF_X0_132 rfl dX0_mustShut_47 ?_
        refine g_icN_ge X (a := i3) (b := N 2) (tgt := 104) (by omega) (by omega) dX0_mustShut_50 (by decide) (fun h7 => absurd h7 (by omega)) (fun h7 => ?_)
        refine g_aload_n X 0 dX0_mustShut_53 rfl rfl ?_
        refine g_get X (C := RX0) (T := TX0) (N := 11) (v := .ref (f 23)) inlX0 0 rfl rfl 5 (Nat.le_of_ble_eq_true rfl) kF_X0_42 rfl dX0_mustShut_54 ?_
        refine g_iload_n X 2 dX0_mustShut_57 rfl rfl ?_
        refine g_iload_n X 1 dX0_mustShut_58 rfl rfl ?_
        refine g_callV X (As := [.int (nI i3), .int (nI (plN C w))]) (rest := []) (m_X3_isNear l D cI cJ cZ (fun i => f (23 + i)) C N S i3 (plN C w) (by omega) (hC.sp (by omega)) hpl) kM_X0_133 kI_yX3_isNear kS_yX3_isNear kZ_RX3 kC_yX3_isNear hV_X3_isNear rfl rfl rfl 0 rfl (ci := 3) rfl ⟨Nat.le_of_ble_eq_true rfl, Nat.le_of_ble_eq_true rfl⟩ ⟨Nat.le_of_ble_eq_true rfl, Nat.le_of_ble_eq_true rfl⟩ (Nat.le_of_ble_eq_true rfl) dX0_mustShut_59 rfl (em_I 23 7 30 0) (em_C (by decide) (Nat.le_of_ble_eq_true rfl) rfl) (em_nd (by decide)) (g_kk1 (w2 := wF f cI cJ cZ C N S Qk Z) (em3 23 7 30 0 (by decide) (Nat.le_of_ble_eq_true rfl) rfl rfl rfl) ?_)
        refine g_bI_eq X (tgt := 98) dX0_mustShut_62 (by decide) (fun h8 => ?_) (fun h8 => ?_)
        · --
          refine g_iinc X [(3, .int (nI (i3 + 1))), (0, .ref (f 0)), (2, .int (nI (plN C w)))] (q := 2) (v := nI (i3 + 1)) dX0_mustShut_98 rfl ((congrArg (fun z => nI (i3) + z) (show Int32.ofInt 1 = nI 1 by decide +kernel)).trans ((nI_add _ _).trans (congrArg nI (by omega)))) (Nat.le_of_ble_eq_true rfl) rfl ?_
          refine g_goto X (tgt := 42) dX0_mustShut_101 (by decide) ?_
          refine g_lv _ [1, 2, 0] rfl ?_
          exact ihL2 (i3 + 1)  (by omega)  (anyB_s hany (by unfold dryB; first | (rw [if_pos (by assumption)]) | (rw [if_neg (by simp_all)]; exact decide_eq_false (Int64.not_lt.mpr (by assumption)))))
        · --
          refine g_aload_n X 0 dX0_mustShut_65 rfl rfl ?_
          refine g_get X (C := RX0) (T := TX0) (N := 11) (v := .ref (f 1)) inlX0 0 rfl rfl 2 (Nat.le_of_ble_eq_true rfl) kF_X0_21 rfl dX0_mustShut_66 ?_
          refine g_get X (C := RX1) (T := TX1) (N := 9) (v := .ref (f 2)) inlX1 1 rfl rfl 0 (Nat.le_of_ble_eq_true rfl) kF_X0_137 rfl dX0_mustShut_69 ?_
          refine g_aload_n X 0 dX0_mustShut_72 rfl rfl ?_
          refine g_get X (C := RX0) (T := TX0) (N := 11) (v := .ref (f 23)) inlX0 0 rfl rfl 5 (Nat.le_of_ble_eq_true rfl) kF_X0_42 rfl dX0_mustShut_73 ?_
          refine g_get X (C := RX3) (T := TX3) (N := 7) (v := .ref (f 24)) inlX3 23 rfl rfl 1 (Nat.le_of_ble_eq_true rfl) kF_X0_140 rfl dX0_mustShut_76 ?_
          refine g_iload_n X 2 dX0_mustShut_79 rfl rfl ?_
          refine g_iald X 24 rfl (i3) rfl (by omega) (Nat.le_of_ble_eq_true rfl) (v := nI (spN C i3)) (hC.sp (by omega)).1 dX0_mustShut_80 ?_
          refine g_lald X 2 rfl (spN C i3) rfl (by exact (hC.sp (by omega)).2) (Nat.le_of_ble_eq_true rfl) (v := S 0 (spN C i3)) rfl dX0_mustShut_81 ?_
          refine g_aload_n X 0 dX0_mustShut_82 rfl rfl ?_
          refine g_get X (C := RX0) (T := TX0) (N := 11) (v := .ref (f 23)) inlX0 0 rfl rfl 5 (Nat.le_of_ble_eq_true rfl) kF_X0_42 rfl dX0_mustShut_83 ?_
          refine g_get X (C := RX3) (T := TX3) (N := 7) (v := .ref (f 26)) inlX3 23 rfl rfl 3 (Nat.le_of_ble_eq_true rfl) kF_X0_141 rfl dX0_mustShut_86 ?_
          refine g_iload_n X 2 dX0_mustShut_89 rfl rfl ?_
          refine g_iald X 26 rfl (i3) rfl (by omega) (Nat.le_of_ble_eq_true rfl) (v := C 9 i3) rfl dX0_mustShut_90 ?_
          refine g_i2l X (v := (C 9 i3).toInt64) dX0_mustShut_91 rfl ?_
          refine g_lj_ge X (tgt := 98) (pc1 := 93) dX0_mustShut_92 rfl dX0_mustShut_93 (by decide) (fun h9 => ?_) (fun h9 => ?_)
          · --
            refine g_iinc X [(3, .int (nI (i3 + 1))), (0, .ref (f 0)), (2, .int (nI (plN C w)))] (q := 2) (v := nI (i3 + 1)) dX0_mustShut_98 rfl ((congrArg (fun z => nI (i3) + z) (show Int32.ofInt 1 = nI 1 by decide +kernel)).trans ((nI_add _ _).trans (congrArg nI (by omega)))) (Nat.le_of_ble_eq_true rfl) rfl ?_
            refine g_goto X (tgt := 42) dX0_mustShut_101 (by decide) ?_
            refine g_lv _ [1, 2, 0] rfl ?_
            exact ihL2 (i3 + 1)  (by omega)  (anyB_s hany (by unfold dryB; first | (rw [if_pos (by assumption)]) | (rw [if_neg (by simp_all)]; exact decide_eq_false (Int64.not_lt.mpr (by assumption)))))
          · --
            refine g_iconst X (v := nI 1) dX0_mustShut_96 (by decide +kernel) ?_
            refine g_zret X hr hlk hQ (by decide +kernel) dX0_mustShut_97 ?_
            show g_eq _ _ _ _
            refine ⟨congrArg (fun z => some (Value.int z)) (?_ : bI true = _), rfl⟩
            refine congrArg bI ?_
            unfold mst
            rw [if_pos (by assumption)]
            refine (anyB_t (by assumption) ?_).symm
            unfold dryB
            rw [if_neg (by simp_all)]
            exact decide_eq_true (Int64.not_le.mp (by assumption))
    refine g_lv _ [2, 1, 0] rfl ?_
    exact L2 ((N 2)) 0  (by omega)  rfl
  · --
    refine g_aload_n X 1 dX0_mustShut_22 rfl rfl ?_
    refine g_get X (C := RX0) (T := TX0) (N := 11) (v := .ref (f 1)) inlX0 0 rfl rfl 2 (Nat.le_of_ble_eq_true rfl) kF_X0_21 rfl dX0_mustShut_23 ?_
    refine g_iload_n X 0 dX0_mustShut_26 rfl rfl ?_
    refine g_callV X (As := [.int (nI (plN C w))]) (rest := []) (m_X1_light l D cI cJ cZ (fun i => f (1 + i)) C S Z (plN C w) hpl) kM_X0_128 kI_yX1_light kS_yX1_light kZ_RX1 kC_yX1_light hV_X1_light rfl rfl rfl 0 rfl (ci := 1) rfl ⟨Nat.le_of_ble_eq_true rfl, Nat.le_of_ble_eq_true rfl⟩ ⟨Nat.le_of_ble_eq_true rfl, Nat.le_of_ble_eq_true rfl⟩ (Nat.le_of_ble_eq_true rfl) dX0_mustShut_27 rfl (em_I 1 10 11 0) (em_C (by decide) (Nat.le_of_ble_eq_true rfl) rfl) (em_nd (by decide)) (g_kk1 (w2 := wF f cI cJ cZ C N S Qk Z) (em3 1 10 11 0 (by decide) (Nat.le_of_ble_eq_true rfl) rfl rfl rfl) ?_)
    refine g_iconst X (v := nI 2) dX0_mustShut_30 (by decide +kernel) ?_
    have J12 : ∀ (v11 : Bool), v11 = (if ¬ lig S (plN C w) = 2 then false else true) → g_G p l e rm_X0_mustShut s m args below meth c D A 4 0 0 Q (wF f cI cJ cZ C N S Qk Z) [] 39 [.int (bI v11)] := by
      intro v11 ev11
      refine g_zret X hr hlk hQ (bI_nar _) dX0_mustShut_39 ?_
      show g_eq _ _ _ _
      try rw [ev11]
      refine ⟨congrArg (fun z => some (Value.int (bI z))) ?_, rfl⟩
      unfold mst
      refine Eq.trans ?_ (if_neg (by assumption)).symm
      by_cases hq : lig S (plN C w) = 2 <;> simp [hq]
    refine g_icN_ne X (a := lig S (plN C w)) (b := 2) (tgt := 38) (by omega) (by omega) dX0_mustShut_31 (by decide) (fun h10 => ?_) (fun h10 => ?_)
    · --
      refine g_iconst X (v := nI 0) dX0_mustShut_38 (by decide +kernel) ?_
      refine g_lv _ [] rfl ?_
      exact J12 _ (by rw [if_pos (c := ¬ lig S (plN C w) = 2) h10])
    · --
      refine g_iconst X (v := nI 1) dX0_mustShut_34 (by decide +kernel) ?_
      refine g_goto X (tgt := 39) dX0_mustShut_35 (by decide) ?_
      refine g_lv _ [] rfl ?_
      exact J12 _ (by rw [if_neg (c := ¬ lig S (plN C w) = 2) (fun z => z h10)])
theorem hV_X0_shutWells : yX0_shutWells.cls = RX0 ∧ yX0_shutWells.cls ≠ "java/lang/invoke/MethodHandle" ∧ yX0_shutWells.cls ≠ "java/lang/invoke/VarHandle" ∧ (parseMethodDescriptor yX0_shutWells.desc).map (fun d => d.parameters.length) = some 0 := by decide +kernel
abbrev rm_X0_shutWells : Room := { frames := 3, cells := 0, slots := 0, locals := 67 }
set_option maxRecDepth 100000 in
set_option maxHeartbeats 4000000 in
theorem m_X0_shutWells (l : Launch) (D : va_G) (cI cJ cZ : ClassId) (f : Nat → Nat) (C : Cf) (N : Nat → Nat) (S : St) (Qk : Nat → Int64) (Z : St) (hC : Cok C N) : g_Ct l D cI cJ cZ yX0_shutWells cX0_shutWells 2 none rm_X0_shutWells 0 0 [.ref (f 0)] (wF f cI cJ cZ C N S Qk Z) (g_eq none (wF f cI cJ cZ C N (itr (shW C N) S (N 0)) Qk Z)) := by
  refine g_body RX0 [(0, .ref (f 0))] kH_X0 rfl (Nat.le_of_ble_eq_true rfl) rfl ?_
  intro p e s m args below meth c A X hr hlk hmn Q hQ
  have hN0 := hC.n0
  have hN1 := hC.n1
  have hN2 := hC.n2
  refine g_iconst X (v := nI 0) dX0_shutWells_0 (by decide +kernel) ?_
  refine g_istore_n X [(1, .int (nI 0)), (0, .ref (f 0))] dX0_shutWells_1 rfl (Nat.le_of_ble_eq_true rfl) rfl ?_
  have L1 : ∀ (n3 i2 : Nat) (S4 : St), i2 + n3 = (N 0) → S4 = itr (shW C N) S i2 → g_G p l e rm_X0_shutWells s m args below meth c D A 2 0 0 Q (wF f cI cJ cZ C N S4 Qk Z) [(0, .ref (f 0)), (1, .int (nI i2))] 2 [] := by
    intro n3
    induction n3 with
    | zero =>
      intro i2 S4 hi5 eS4
      obtain rfl : i2 = (N 0) := by omega
      refine g_iload_n X 1 dX0_shutWells_2 rfl rfl ?_
      refine g_aload_n X 0 dX0_shutWells_3 rfl rfl ?_
      refine g_get X (C := RX0) (T := TX0) (N := 11) (v := .ref (f 11)) inlX0 0 rfl rfl 3 (Nat.le_of_ble_eq_true rfl) kF_X0_28 rfl dX0_shutWells_4 ?_
      refine g_get X (C := RX5) (T := TX5) (N := 9) (v := .int (nI (N 0))) inlX5 11 rfl rfl 0 (Nat.le_of_ble_eq_true rfl) kF_X0_107 rfl dX0_shutWells_7 ?_
      refine g_icN_ge X (a := (N 0)) (b := N 0) (tgt := 43) (by omega) (by omega) dX0_shutWells_10 (by decide) (fun h6 => ?_) (fun h6 => absurd h6 (by omega))
      refine g_vret X hr hlk hQ dX0_shutWells_43 ?_
      show g_eq _ _ _ _
      try rw [eS4]
      exact ⟨rfl, rfl⟩
    | succ n3 ihL1 =>
      intro i2 S4 hi5 eS4
      have hlti2 : i2 < (N 0) := by omega
      refine g_iload_n X 1 dX0_shutWells_2 rfl rfl ?_
      refine g_aload_n X 0 dX0_shutWells_3 rfl rfl ?_
      refine g_get X (C := RX0) (T := TX0) (N := 11) (v := .ref (f 11)) inlX0 0 rfl rfl 3 (Nat.le_of_ble_eq_true rfl) kF_X0_28 rfl dX0_shutWells_4 ?_
      refine g_get X (C := RX5) (T := TX5) (N := 9) (v := .int (nI (N 0))) inlX5 11 rfl rfl 0 (Nat.le_of_ble_eq_true rfl) kF_X0_107 rfl dX0_shutWells_7 ?_
      refine g_icN_ge X (a := i2) (b := N 0) (tgt := 43) (by omega) (by omega) dX0_shutWells_10 (by decide) (fun h7 => absurd h7 (by omega)) (fun h7 => ?_)
      refine g_aload_n X 0 dX0_shutWells_13 rfl rfl ?_
      refine g_get X (C := RX0) (T := TX0) (N := 11) (v := .ref (f 11)) inlX0 0 rfl rfl 3 (Nat.le_of_ble_eq_true rfl) kF_X0_28 rfl dX0_shutWells_14 ?_
      refine g_get X (C := RX5) (T := TX5) (N := 9) (v := .ref (f 16)) inlX5 11 rfl rfl 5 (Nat.le_of_ble_eq_true rfl) kF_X0_110 rfl dX0_shutWells_17 ?_
      refine g_iload_n X 1 dX0_shutWells_20 rfl rfl ?_
      refine g_lconst X (v := 0) dX0_shutWells_21 (by decide +kernel) ?_
      obtain ⟨S8, eS8⟩ : ∃ z : St, z = u2 S4 5 i2 (0 : Int64) := ⟨_, rfl⟩
      refine g_last X (ws' := wF f cI cJ cZ C N S8 Qk Z) 16 rfl (i2) rfl (by omega) (Nat.le_of_ble_eq_true rfl) dX0_shutWells_22 (by rw [eS8]; first | done | (rfl)) ?_
      refine g_aload_n X 0 dX0_shutWells_23 rfl rfl ?_
      refine g_get X (C := RX0) (T := TX0) (N := 11) (v := .ref (f 11)) inlX0 0 rfl rfl 3 (Nat.le_of_ble_eq_true rfl) kF_X0_28 rfl dX0_shutWells_24 ?_
      refine g_get X (C := RX5) (T := TX5) (N := 9) (v := .ref (f 17)) inlX5 11 rfl rfl 6 (Nat.le_of_ble_eq_true rfl) kF_X0_113 rfl dX0_shutWells_27 ?_
      refine g_iload_n X 1 dX0_shutWells_30 rfl rfl ?_
      refine g_aload_n X 0 dX0_shutWells_31 rfl rfl ?_
      refine g_iload_n X 1 dX0_shutWells_32 rfl rfl ?_
      refine g_callV X (As := [.int (nI i2)]) (rest := [.int (nI i2), .ref (f 17)]) (m_X0_mustShut l D cI cJ cZ f C N S8 Qk Z i2 hC (by omega)) kM_X0_117 kI_yX0_mustShut kS_yX0_mustShut kZ_RX0 kC_yX0_mustShut hV_X0_mustShut rfl rfl rfl 0 rfl (ci := 0) rfl ⟨Nat.le_of_ble_eq_true rfl, Nat.le_of_ble_eq_true rfl⟩ ⟨Nat.le_of_ble_eq_true rfl, Nat.le_of_ble_eq_true rfl⟩ (Nat.le_of_ble_eq_true rfl) dX0_shutWells_33 rfl (em_I 0 35 35 0) (em_C (by decide) (Nat.le_of_ble_eq_true rfl) rfl) (em_nd (by decide)) (g_kk1 (w2 := wF f cI cJ cZ C N S8 Qk Z) (em3 0 35 35 0 (by decide) (Nat.le_of_ble_eq_true rfl) rfl rfl rfl) ?_)
      obtain ⟨S9, eS9⟩ : ∃ z : St, z = u2 S8 6 i2 (bL (mst C N S8 i2)) := ⟨_, rfl⟩
      refine g_zast X (ws' := wF f cI cJ cZ C N S9 Qk Z) 17 rfl (i2) rfl (by omega) (Nat.le_of_ble_eq_true rfl) dX0_shutWells_36 (by rw [eS9]; first | done | (rw [bI_vp _]; rw [i32_updV _ _ (v := bL (mst C N S8 i2)) (bL_32 _)]; rfl)) ?_
      refine g_iinc X [(1, .int (nI (i2 + 1))), (0, .ref (f 0))] (q := 1) (v := nI (i2 + 1)) dX0_shutWells_37 rfl ((congrArg (fun z => nI (i2) + z) (show Int32.ofInt 1 = nI 1 by decide +kernel)).trans ((nI_add _ _).trans (congrArg nI (by omega)))) (Nat.le_of_ble_eq_true rfl) rfl ?_
      refine g_goto X (tgt := 2) dX0_shutWells_40 (by decide) ?_
      refine g_lv _ [1, 0] rfl ?_
      exact ihL1 (i2 + 1) _ (by omega) (by (try rw [eS9]); (try rw [eS8]); (try rw [eS4]); first | done | (rfl))
  refine g_lv _ [1, 0] rfl ?_
  exact L1 ((N 0)) 0 _ (by omega) (by first | rfl | (first | done | rfl))
