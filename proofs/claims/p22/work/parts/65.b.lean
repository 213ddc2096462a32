theorem hV_X6_bitsOf : yX6_bitsOf.cls = RX6 ∧ yX6_bitsOf.cls ≠ "java/lang/invoke/MethodHandle" ∧ yX6_bitsOf.cls ≠ "java/lang/invoke/VarHandle" ∧ (parseMethodDescriptor yX6_bitsOf.desc).map (fun d => d.parameters.length) = some 1 := by decide +kernel
abbrev rm_X6_bitsOf : Room := { frames := 0, cells := 0, slots := 0, locals := 0 }
set_option maxRecDepth 100000 in
set_option maxHeartbeats 4000000 in
theorem m_X6_bitsOf (l : Launch) (D : va_G) (cI cJ cZ : ClassId) (E m0 : Nat) (hE1 : 2 ≤ E) (hE2 : E ≤ 126) (hm0 : m0 < 8388608) : g_Ct l D cI cJ cZ yX6_bitsOf cX6_bitsOf 3 (some .int) rm_X6_bitsOf 0 0 [.float (fo E m0)] ([]) (g_eq (some (.int (nI (E * 8388608 + m0)))) ([])) := by
  refine g_body RX6 [(0, .float (fo E m0))] kH_X6 rfl (Nat.le_of_ble_eq_true rfl) rfl ?_
  intro p e s m args below meth c A X hr hlk hmn Q hQ
  refine g_bipush X (v := nI 127) dX6_bitsOf_0 (by decide +kernel) ?_
  refine g_istore_n X [(1, .int (nI 127)), (0, .float (fo E m0))] dX6_bitsOf_2 rfl (Nat.le_of_ble_eq_true rfl) rfl ?_
  refine g_fload_n X 1 dX6_bitsOf_3 rfl rfl ?_
  refine g_fstore_n X [(2, .float (fo E m0)), (1, .int (nI 127)), (0, .float (fo E m0))] dX6_bitsOf_4 rfl (Nat.le_of_ble_eq_true rfl) rfl ?_
  have L : ∀ (n k : Nat), k + n = 127 - E → g_G p l e rm_X6_bitsOf s m args below meth c D A 3 0 0 Q ([]) [(2, .float (fo (E + k) m0)), (1, .int (nI (127 - k))), (0, .float (fo E m0))] 5 [] := by
    intro n
    induction n with
    | zero =>
      intro k hk
      obtain ⟨hk1, hk2⟩ : E + k = 127 ∧ 127 - k = E := by omega
      rw [hk1, hk2]
      refine g_fload_n X 0 dX6_bitsOf_5 rfl rfl ?_
      refine g_fconst1 X dX6_bitsOf_6 ?_
      refine g_fcmp X dX6_bitsOf_7 ?_
      have hc : 0 ≤ Op.cmpValue (FP.fcmp (fo 127 m0) 1065353216) .g := by
        rw [cmp_g]
        exact (FP.Core.cmpInt_g_ge _).mpr (fo_ge1 hm0)
      refine g_if_ge X (tgt := 26) dX6_bitsOf_8 (by decide) (fun _ => ?_) (fun h => absurd hc h)
      refine g_iload_n X 1 dX6_bitsOf_26 rfl rfl ?_
      refine g_bipush X (v := nI 23) dX6_bitsOf_27 (by decide +kernel) ?_
      refine g_ishl X (v := nI (E * 8388608)) dX6_bitsOf_29 (fo_shl hE2) ?_
      refine g_fload_n X 0 dX6_bitsOf_30 rfl rfl ?_
      refine g_fconst1 X dX6_bitsOf_31 ?_
      refine g_fsub X dX6_bitsOf_32 (fo_dn1 hm0).1 ?_
      refine g_ldcf X kG_X6_170 dX6_bitsOf_33 ?_
      refine g_fmul X dX6_bitsOf_35 (fo_dn1 hm0).2 ?_
      refine g_f2i X dX6_bitsOf_36 ?_
      rw [fo_dig hm0]
      refine g_iadd X (v := nI (E * 8388608 + m0)) dX6_bitsOf_37 (nI_add _ _) ?_
      exact g_iret X hr hlk hQ dX6_bitsOf_38 ⟨rfl, rfl⟩
    | succ n ih =>
      intro k hk
      refine g_fload_n X 0 dX6_bitsOf_5 rfl rfl ?_
      refine g_fconst1 X dX6_bitsOf_6 ?_
      refine g_fcmp X dX6_bitsOf_7 ?_
      have hc : ¬ 0 ≤ Op.cmpValue (FP.fcmp (fo (E + k) m0) 1065353216) .g := by
        rw [fo_lt1 (by omega) (by omega) hm0]
        decide +kernel
      refine g_if_ge X (tgt := 26) dX6_bitsOf_8 (by decide) (fun h => absurd h hc) (fun _ => ?_)
      refine g_iload_n X 1 dX6_bitsOf_11 rfl rfl ?_
      refine g_iconst X (v := nI 1) dX6_bitsOf_12 (by decide +kernel) ?_
      refine g_icN_le X (a := 127 - k) (b := 1) (tgt := 26) (by omega) (by omega) dX6_bitsOf_13 (by decide) (fun h => absurd h (by omega)) (fun _ => ?_)
      refine g_fload_n X 0 dX6_bitsOf_16 rfl rfl ?_
      refine g_fconst2 X dX6_bitsOf_17 ?_
      have h2 : FP.fmul (fo (E + k) m0) 1073741824 = fo (E + (k + 1)) m0 := fo_two (by omega) (by omega) hm0
      refine g_fmul X dX6_bitsOf_18 (by rw [h2]; exact fo_n32 (by omega) hm0) ?_
      rw [h2]
      refine g_fstore_n X [(2, .float (fo (E + (k + 1)) m0)), (1, .int (nI (127 - k))), (0, .float (fo E m0))] dX6_bitsOf_19 rfl (Nat.le_of_ble_eq_true rfl) rfl ?_
      refine g_iinc X [(1, .int (nI (127 - (k + 1)))), (2, .float (fo (E + (k + 1)) m0)), (0, .float (fo E m0))] (q := 1) (v := nI (127 - (k + 1))) dX6_bitsOf_20 rfl (nI_dec1 (by omega)) (Nat.le_of_ble_eq_true rfl) rfl ?_
      refine g_goto X (tgt := 5) dX6_bitsOf_23 (by decide) ?_
      refine g_lv _ [1, 0, 2] rfl ?_
      exact ih (k + 1) (by omega)
  exact L (127 - E) 0 (by omega)
def shM (S : St) : Int32 := if S 12 6 = 0 then nI 0 else nI (FP.fdiv (FP.l2f (S 12 6)) (FP.l2f (S 12 7))).toNat
theorem shM_fo {S : St} (h : Shr S) (h0 : ¬ S 12 6 = 0) : ∃ E m, 2 ≤ E ∧ E ≤ 126 ∧ m < 8388608 ∧ FP.fdiv (FP.l2f (S 12 6)) (FP.l2f (S 12 7)) = fo E m ∧ shM S = nI (E * 8388608 + m) := by
  have hp : 0 < (S 12 6).toInt := by
    have : (S 12 6).toInt ≠ 0 := fun z => h0 (Int64.toInt_inj.mp (z.trans (by decide)))
    have := h.1
    omega
  obtain ⟨E, m, h1, h2, h3, h4⟩ := fdiv_fo hp h.2
  refine ⟨E, m, h1, h2, h3, h4, ?_⟩
  unfold shM
  rw [if_neg h0, h4, fo_nat (by omega) h3]
theorem hV_X6_share : yX6_share.cls = RX6 ∧ yX6_share.cls ≠ "java/lang/invoke/MethodHandle" ∧ yX6_share.cls ≠ "java/lang/invoke/VarHandle" ∧ (parseMethodDescriptor yX6_share.desc).map (fun d => d.parameters.length) = some 0 := by decide +kernel
abbrev rm_X6_share : Room := { frames := 1, cells := 0, slots := 0, locals := 22 }
set_option maxRecDepth 100000 in
set_option maxHeartbeats 4000000 in
theorem m_X6_share (l : Launch) (D : va_G) (cI cJ cZ : ClassId) (x : Nat → Nat) (y : Nat) (C : Cf) (N : Nat → Nat) (S : St) (Qk : Nat → Int64) (Z : St) (hS : Shr S) : g_Ct l D cI cJ cZ yX6_share cX6_share 5 (some .int) rm_X6_share 0 0 [.ref (x 0)] (wX x y cI cJ cZ C N S Qk Z) (g_eq (some (.int (shM S))) (wX x y cI cJ cZ C N S Qk Z)) := by
  refine g_body RX6 [(0, .ref (x 0))] kH_X6 rfl (Nat.le_of_ble_eq_true rfl) rfl ?_
  intro p e s m args below meth c A X hr hlk hmn Q hQ
  have e0 : (0 : Int64).toInt = 0 := by decide
  refine g_aload_n X 0 dX6_share_0 rfl rfl ?_
  refine g_get X (C := RX6) (T := TX6) (N := 2) (v := .ref (x 1)) inlX6 0 rfl rfl 0 (Nat.le_of_ble_eq_true rfl) kF_X6_10 rfl dX6_share_1 ?_
  refine g_get X (C := RX0) (T := TX0) (N := 11) (v := .ref (x 35)) inlX0 1 rfl rfl 7 (Nat.le_of_ble_eq_true rfl) kF_X6_146 rfl dX6_share_4 ?_
  refine g_bipush X (v := nI 6) dX6_share_7 (by decide +kernel) ?_
  refine g_lald X 35 rfl 6 rfl (by omega) (Nat.le_of_ble_eq_true rfl) (v := S 12 6) rfl dX6_share_9 ?_
  refine g_lstore_n X [(1, .long (S 12 6)), (0, .ref (x 0))] dX6_share_10 rfl (Nat.le_of_ble_eq_true rfl) rfl ?_
  refine g_aload_n X 1 dX6_share_11 rfl rfl ?_
  refine g_get X (C := RX6) (T := TX6) (N := 2) (v := .ref (x 1)) inlX6 0 rfl rfl 0 (Nat.le_of_ble_eq_true rfl) kF_X6_10 rfl dX6_share_12 ?_
  refine g_get X (C := RX0) (T := TX0) (N := 11) (v := .ref (x 35)) inlX0 1 rfl rfl 7 (Nat.le_of_ble_eq_true rfl) kF_X6_146 rfl dX6_share_15 ?_
  refine g_bipush X (v := nI 7) dX6_share_18 (by decide +kernel) ?_
  refine g_lald X 35 rfl 7 rfl (by omega) (Nat.le_of_ble_eq_true rfl) (v := S 12 7) rfl dX6_share_20 ?_
  refine g_lstore_n X [(3, .long (S 12 7)), (1, .long (S 12 6)), (0, .ref (x 0))] dX6_share_21 rfl (Nat.le_of_ble_eq_true rfl) rfl ?_
  refine g_lload_n X 1 dX6_share_22 rfl rfl ?_
  refine g_lconst X (v := 0) dX6_share_23 (by decide +kernel) ?_
  refine g_lj_le X (tgt := 45) (pc1 := 25) dX6_share_24 rfl dX6_share_25 (by decide) (fun h1 => ?_) (fun h1 => ?_)
  · have h0 : S 12 6 = 0 := Int64.toInt_inj.mp (by
      rw [Int64.le_iff_toInt_le] at h1
      have := hS.1
      omega)
    refine g_iconst X (v := nI 0) dX6_share_45 (by decide +kernel) ?_
    refine g_iret X hr hlk hQ dX6_share_46 ⟨?_, rfl⟩
    unfold shM
    rw [if_pos h0]
  · have h0 : ¬ S 12 6 = 0 := fun z => h1 (by rw [z]; exact Int64.le_refl 0)
    obtain ⟨E, m0, hE1, hE2, hm0, hf, hM⟩ := shM_fo hS h0
    refine g_lload_n X 0 dX6_share_28 rfl rfl ?_
    refine g_lconst X (v := 0) dX6_share_29 (by decide +kernel) ?_
    refine g_lj_le X (tgt := 45) (pc1 := 31) dX6_share_30 rfl dX6_share_31 (by decide) (fun h2 => absurd h2 ?_) (fun h2 => ?_)
    · rw [Int64.le_iff_toInt_le] at h1 ⊢
      have := hS.2
      omega
    · refine g_lload_n X 1 dX6_share_34 rfl rfl ?_
      refine g_l2f X dX6_share_35 ?_
      refine g_lload_n X 0 dX6_share_36 rfl rfl ?_
      refine g_l2f X dX6_share_37 ?_
      refine g_fdiv X dX6_share_38 (by rw [hf]; exact fo_n32 (by omega) hm0) ?_
      rw [hf]
      refine g_callS X (As := [.float (fo E m0)]) (rest := []) (m_X6_bitsOf l D cI cJ cZ E m0 hE1 hE2 hm0) kM_X6_149 kT_yX6_bitsOf kZ_RX6 kC_yX6_bitsOf hV_X6_bitsOf rfl rfl rfl ⟨Nat.le_of_ble_eq_true rfl, Nat.le_of_ble_eq_true rfl⟩ ⟨Nat.le_of_ble_eq_true rfl, Nat.le_of_ble_eq_true rfl⟩ (Nat.le_of_ble_eq_true rfl) dX6_share_39 rfl [] rfl (by decide +kernel) (g_kk1 (w2 := wX x y cI cJ cZ C N S Qk Z) em0 ?_)
      refine g_goto X (tgt := 46) dX6_share_42 (by decide) ?_
      refine g_iret X hr hlk hQ dX6_share_46 ⟨?_, rfl⟩
      rw [hM]
