set_option maxRecDepth 100000 in
set_option maxHeartbeats 4000000 in
theorem n_tells_7 (l : Launch) (D : va_G) (cI cJ cZ : ClassId) (x y : Nat → Nat) (C : Cf) (N : Nat → Nat) (S : St) (Qk : Nat → Int64) (Z : St) (jC : Cf) (jN : Nat → Nat) (jS : St) (jQ : Nat → Int64) (jZ : St) (zv : Int32) (b : Nat) (hb : b < 12) (mo : Nat) (hm : mo ≤ 600) (hL : LV C N S mo) {p : Program} {e : Env} {s : State} {m : MethodId} {args : Array Value} {below : List Frame} {meth : Method} {c : Code} {A : Nat → Prop} (X : g_Cx p s m args c D A 16 cL_tells RL cI cJ cZ) (hr : meth.sig.returnType = (some .boolean)) (hlk : meth.locks = false) {Q : State → Prop} (hQ : MQ below (g_Post D A (TP x y cI cJ cZ N Qk Z jC jN jS jQ jZ mo)) args s 0 0 A = Q) : g_G p l e rm_L_tells s m args below meth c D A 16 0 0 Q (wX2 x cI cJ cZ C N S Qk Z jC jN jS jQ jZ ++ wL y cI cJ C N S Qk) [(0, .ref (x 0)), (1, .int (nI 7)), (2, .int zv), (3, .ref (y 0)), (4, .ref (y 1)), (5, .ref (y 2)), (6, .ref (y 4)), (7, .ref (y 5)), (8, .ref (y 7)), (9, .ref (y 9)), (10, .ref (y 12)), (11, .int (nI b))] 8 [] := by
  have hC := hL.c
  have hW := hL.wok hm
  have hn0 := hL.2.2.2.1
  have hn1 := hL.2.2.2.2.1
  have hn2 := hL.2.2.2.2.2
  refine g_iload_n X 1 dL_tells_8 rfl rfl ?_
  refine g_iN_ne X (a := 7) (tgt := 121) (by omega) dL_tells_9 (by decide) (fun h1 => ?_) (fun h1 => absurd h1 (by decide))
  refine g_iload_n X 1 dL_tells_121 rfl rfl ?_
  refine g_iconst X (v := nI 1) dL_tells_122 (by decide +kernel) ?_
  refine g_icN_ne X (a := 7) (b := 1) (tgt := 235) (by omega) (by omega) dL_tells_123 (by decide) (fun h2 => ?_) (fun h2 => absurd h2 (by decide))
  refine g_iload_n X 1 dL_tells_235 rfl rfl ?_
  refine g_iconst X (v := nI 2) dL_tells_236 (by decide +kernel) ?_
  refine g_icN_ne X (a := 7) (b := 2) (tgt := 278) (by omega) (by omega) dL_tells_237 (by decide) (fun h3 => ?_) (fun h3 => absurd h3 (by decide))
  refine g_iload_n X 1 dL_tells_278 rfl rfl ?_
  refine g_iconst X (v := nI 3) dL_tells_279 (by decide +kernel) ?_
  refine g_icN_ne X (a := 7) (b := 3) (tgt := 405) (by omega) (by omega) dL_tells_280 (by decide) (fun h4 => ?_) (fun h4 => absurd h4 (by decide))
  refine g_iload_n X 1 dL_tells_405 rfl rfl ?_
  refine g_iconst X (v := nI 4) dL_tells_406 (by decide +kernel) ?_
  refine g_icN_ne X (a := 7) (b := 4) (tgt := 533) (by omega) (by omega) dL_tells_407 (by decide) (fun h5 => ?_) (fun h5 => absurd h5 (by decide))
  refine g_iload_n X 1 dL_tells_533 rfl rfl ?_
  refine g_iconst X (v := nI 5) dL_tells_534 (by decide +kernel) ?_
  refine g_icN_ne X (a := 7) (b := 5) (tgt := 621) (by omega) (by omega) dL_tells_535 (by decide) (fun h6 => ?_) (fun h6 => absurd h6 (by decide))
  refine g_iload_n X 1 dL_tells_621 rfl rfl ?_
  refine g_bipush X (v := nI 6) dL_tells_622 (by decide +kernel) ?_
  refine g_icN_ne X (a := 7) (b := 6) (tgt := 724) (by omega) (by omega) dL_tells_624 (by decide) (fun h7 => ?_) (fun h7 => absurd h7 (by decide))
  refine g_iload_n X 1 dL_tells_724 rfl rfl ?_
  refine g_bipush X (v := nI 7) dL_tells_725 (by decide +kernel) ?_
  refine g_icN_ne X (a := 7) (b := 7) (tgt := 831) (by omega) (by omega) dL_tells_727 (by decide) (fun h8 => absurd rfl h8) (fun h8 => ?_)
  refine g_aload X 10 dL_tells_730 rfl ?_
  refine g_iconst X (v := nI 2) dL_tells_732 (by decide +kernel) ?_
  refine g_iald X 83 rfl (2) rfl (by omega) (Nat.le_of_ble_eq_true rfl) (v := nI (N 2)) rfl dL_tells_733 ?_
  refine g_iconst X (v := nI 3) dL_tells_734 (by decide +kernel) ?_
  refine g_icN_ne X (a := N 2) (b := 3) (tgt := 740) (by omega) (by omega) dL_tells_735 (by decide) (fun h9 => ?_) (fun h9 => ?_)
  · --
    refine g_iconst X (v := nI 5) dL_tells_740 (by decide +kernel) ?_
    refine g_aload X 10 dL_tells_741 rfl ?_
    refine g_iconst X (v := nI 2) dL_tells_743 (by decide +kernel) ?_
    refine g_iald X 83 rfl (2) rfl (by omega) (Nat.le_of_ble_eq_true rfl) (v := nI (N 2)) rfl dL_tells_744 ?_
    refine g_imul X (v := nI (5 * (N 2))) dL_tells_745 (pk_mul _ _) ?_
    refine g_istore X [(12, .int (nI (5 * (N 2)))), (0, .ref (x 0)), (1, .int (nI 7)), (2, .int zv), (3, .ref (y 0)), (4, .ref (y 1)), (5, .ref (y 2)), (6, .ref (y 4)), (7, .ref (y 5)), (8, .ref (y 7)), (9, .ref (y 9)), (10, .ref (y 12)), (11, .int (nI b))] dL_tells_746 (Nat.le_of_ble_eq_true rfl) rfl ?_
    refine g_aload X 9 dL_tells_748 rfl ?_
    refine g_iload X 0 dL_tells_750 rfl ?_
    refine g_iload X 12 dL_tells_752 rfl ?_
    obtain ⟨aC10, eaC10⟩ : ∃ z : Cf, z = c2 C 7 (N 2) (nI b) := ⟨_, rfl⟩
    refine g_iast X (ws' := wX2 x cI cJ cZ C N S Qk Z jC jN jS jQ jZ ++ wL y cI cJ aC10 N S Qk) 78 rfl (5 * (N 2)) rfl (by omega) (Nat.le_of_ble_eq_true rfl) dL_tells_754 (by rw [eaC10]; first | done | (rw [lrG_w0]; rfl)) ?_
    refine g_aload X 9 dL_tells_755 rfl ?_
    refine g_iload X 0 dL_tells_757 rfl ?_
    refine g_iconst X (v := nI 1) dL_tells_759 (by decide +kernel) ?_
    refine g_iadd X (v := nI (5 * (N 2) + 1)) dL_tells_760 ((nI_add _ _).trans (congrArg nI (by omega))) ?_
    refine g_iload_n X 3 dL_tells_761 rfl rfl ?_
    refine g_iconst X (v := nI 4) dL_tells_762 (by decide +kernel) ?_
    refine g_ishr X (v := zv >>> ((nI 4) &&& 31)) dL_tells_763 rfl ?_
    refine g_sipush X (v := nI 16000) dL_tells_764 (by decide +kernel) ?_
    have fl11 := lwN_lt (zv >>> ((nI 4) &&& 31)) (n := 16000) (by omega)
    refine g_callS X (As := [.int (zv >>> ((nI 4) &&& 31)), .int (nI 16000)]) (rest := [.int (nI (5 * (N 2) + 1)), .ref (y 7)]) (m_L_low l D cI cJ cZ (zv >>> ((nI 4) &&& 31)) 16000 (by omega) (by omega)) kM_L_114 kT_yL_low kZ_RL kC_yL_low hV_L_low rfl rfl rfl ⟨Nat.le_of_ble_eq_true rfl, Nat.le_of_ble_eq_true rfl⟩ ⟨Nat.le_of_ble_eq_true rfl, Nat.le_of_ble_eq_true rfl⟩ (Nat.le_of_ble_eq_true rfl) dL_tells_767 rfl [] rfl (by decide +kernel) (g_kk1 (w2 := wX2 x cI cJ cZ C N S Qk Z jC jN jS jQ jZ ++ wL y cI cJ aC10 N S Qk) em0 ?_)
    obtain ⟨a9, ea9⟩ : ∃ z : Nat, z = lwN (zv >>> ((nI 4) &&& 31)) 16000 := ⟨_, rfl⟩
    have ha9 : a9 < 16000 := by rw [ea9]; exact lwN_lt _ (by omega)
    refine g_st (st' := [.int (nI a9), .int (nI (5 * (N 2) + 1)), .ref (y 7)]) (by rw [ea9]; first | done | rfl) ?_
    obtain ⟨aC12, eaC12⟩ : ∃ z : Cf, z = c2 aC10 8 (N 2) (nI a9) := ⟨_, rfl⟩
    refine g_iast X (ws' := wX2 x cI cJ cZ C N S Qk Z jC jN jS jQ jZ ++ wL y cI cJ aC12 N S Qk) 78 rfl (5 * (N 2) + 1) rfl (by omega) (Nat.le_of_ble_eq_true rfl) dL_tells_770 (by rw [eaC12]; first | done | (rw [lrG_w1]; rfl)) ?_
    refine g_aload X 9 dL_tells_771 rfl ?_
    refine g_iload X 0 dL_tells_773 rfl ?_
    refine g_iconst X (v := nI 2) dL_tells_775 (by decide +kernel) ?_
    refine g_iadd X (v := nI (5 * (N 2) + 2)) dL_tells_776 ((nI_add _ _).trans (congrArg nI (by omega))) ?_
    refine g_iload_n X 3 dL_tells_777 rfl rfl ?_
    refine g_bipush X (v := nI 6) dL_tells_778 (by decide +kernel) ?_
    refine g_ishr X (v := zv >>> ((nI 6) &&& 31)) dL_tells_780 rfl ?_
    refine g_sipush X (v := nI 14000) dL_tells_781 (by decide +kernel) ?_
    have fl13 := lwN_lt (zv >>> ((nI 6) &&& 31)) (n := 14000) (by omega)
    refine g_callS X (As := [.int (zv >>> ((nI 6) &&& 31)), .int (nI 14000)]) (rest := [.int (nI (5 * (N 2) + 2)), .ref (y 7)]) (m_L_low l D cI cJ cZ (zv >>> ((nI 6) &&& 31)) 14000 (by omega) (by omega)) kM_L_114 kT_yL_low kZ_RL kC_yL_low hV_L_low rfl rfl rfl ⟨Nat.le_of_ble_eq_true rfl, Nat.le_of_ble_eq_true rfl⟩ ⟨Nat.le_of_ble_eq_true rfl, Nat.le_of_ble_eq_true rfl⟩ (Nat.le_of_ble_eq_true rfl) dL_tells_784 rfl [] rfl (by decide +kernel) (g_kk1 (w2 := wX2 x cI cJ cZ C N S Qk Z jC jN jS jQ jZ ++ wL y cI cJ aC12 N S Qk) em0 ?_)
    obtain ⟨d9, ed9⟩ : ∃ z : Nat, z = lwN (zv >>> ((nI 6) &&& 31)) 14000 := ⟨_, rfl⟩
    have hd9 : d9 < 14000 := by rw [ed9]; exact lwN_lt _ (by omega)
    refine g_st (st' := [.int (nI d9), .int (nI (5 * (N 2) + 2)), .ref (y 7)]) (by rw [ed9]; first | done | rfl) ?_
    obtain ⟨aC14, eaC14⟩ : ∃ z : Cf, z = c2 aC12 9 (N 2) (nI d9) := ⟨_, rfl⟩
    refine g_iast X (ws' := wX2 x cI cJ cZ C N S Qk Z jC jN jS jQ jZ ++ wL y cI cJ aC14 N S Qk) 78 rfl (5 * (N 2) + 2) rfl (by omega) (Nat.le_of_ble_eq_true rfl) dL_tells_787 (by rw [eaC14]; first | done | (rw [lrG_w2]; rfl)) ?_
    refine g_aload X 11 dL_tells_788 rfl ?_
    refine g_iconst X (v := nI 2) dL_tells_790 (by decide +kernel) ?_
    refine g_dup2_11 X dL_tells_791 rfl rfl ?_
    refine g_iald X 83 rfl (2) rfl (by omega) (Nat.le_of_ble_eq_true rfl) (v := nI (N 2)) rfl dL_tells_792 ?_
    refine g_iconst X (v := nI 1) dL_tells_793 (by decide +kernel) ?_
    refine g_iadd X (v := nI (N 2 + 1)) dL_tells_794 ((nI_add _ _).trans (congrArg nI (by omega))) ?_
    obtain ⟨aN15, eaN15⟩ : ∃ z : Nat → Nat, z = n2 N 2 (N 2 + 1) := ⟨_, rfl⟩
    refine g_iast X (ws' := wX2 x cI cJ cZ C N S Qk Z jC jN jS jQ jZ ++ wL y cI cJ aC14 aN15 S Qk) 83 rfl (2) rfl (by omega) (Nat.le_of_ble_eq_true rfl) dL_tells_795 (by rw [eaN15]; first | done | (rw [lrQ_w2]; rfl)) ?_
    refine g_aload_n X 1 dL_tells_796 rfl rfl ?_
    refine g_iload X 12 dL_tells_797 rfl ?_
    refine g_aload X 9 dL_tells_799 rfl ?_
    refine g_iload X 0 dL_tells_801 rfl ?_
    refine g_iconst X (v := nI 1) dL_tells_803 (by decide +kernel) ?_
    refine g_iadd X (v := nI (5 * (N 2) + 1)) dL_tells_804 ((nI_add _ _).trans (congrArg nI (by omega))) ?_
    refine g_iald X 78 rfl (5 * (N 2) + 1) rfl (by omega) (Nat.le_of_ble_eq_true rfl) (v := nI a9) ((show _ = aC14 8 (N 2) from (lrG_1 aC14 S (N 2))).trans (by rw [eaC14, c2_ap, if_neg (by simp), eaC12, c2_ap, if_pos ⟨rfl, rfl⟩])) dL_tells_805 ?_
    refine g_aload X 9 dL_tells_806 rfl ?_
    refine g_iload X 0 dL_tells_808 rfl ?_
    refine g_iconst X (v := nI 2) dL_tells_810 (by decide +kernel) ?_
    refine g_iadd X (v := nI (5 * (N 2) + 2)) dL_tells_811 ((nI_add _ _).trans (congrArg nI (by omega))) ?_
    refine g_iald X 78 rfl (5 * (N 2) + 2) rfl (by omega) (Nat.le_of_ble_eq_true rfl) (v := nI d9) ((show _ = aC14 9 (N 2) from (lrG_2 aC14 S (N 2))).trans (by rw [eaC14, c2_ap, if_pos ⟨rfl, rfl⟩])) dL_tells_812 ?_
    obtain ⟨C16, eC16⟩ : ∃ z : Cf, z = c2 (c2 (c2 C 7 (N 2) (nI b)) 8 (N 2) (nI a9)) 9 (N 2) (nI d9) := ⟨_, rfl⟩
    obtain ⟨N17, eN17⟩ : ∃ z : Nat → Nat, z = n2 N 2 (N 2 + 1) := ⟨_, rfl⟩
    refine g_callV X (As := [.int (nI b), .int (nI a9), .int (nI d9)]) (rest := []) (c_spring l D cI cJ cZ x (x 36) C N S Qk Z b a9 d9 hb (by omega) (by omega) (by omega) hC) kM_L_141 kI_yX6_spring kS_yX6_spring kZ_RX6 kC_yX6_spring hV_X6_spring rfl rfl rfl 0 rfl (ci := 6) rfl ⟨Nat.le_of_ble_eq_true rfl, Nat.le_of_ble_eq_true rfl⟩ ⟨Nat.le_of_ble_eq_true rfl, Nat.le_of_ble_eq_true rfl⟩ (Nat.le_of_ble_eq_true rfl) dL_tells_813 rfl (em_I 0 36 36 0) (em_C (by decide) (Nat.le_of_ble_eq_true rfl) rfl) (em_nd (by decide)) (g_kk1 (w2 := wX2 x cI cJ cZ C16 N17 S Qk Z jC jN jS jQ jZ ++ wL y cI cJ aC14 aN15 S Qk) (by rw [eN17]; rw [eC16]; exact (em3 0 36 36 0 (by decide) (Nat.le_of_ble_eq_true rfl) rfl rfl rfl)) ?_)
    refine g_aload X 11 dL_tells_816 rfl ?_
    refine g_iconst X (v := nI 2) dL_tells_818 (by decide +kernel) ?_
    refine g_iald X 83 rfl (2) rfl (by omega) (Nat.le_of_ble_eq_true rfl) (v := nI (N 2 + 1)) ((show _ = nI (aN15 2) from rfl).trans (by rw [eaN15]; rfl)) dL_tells_819 ?_
    refine g_iconst X (v := nI 1) dL_tells_820 (by decide +kernel) ?_
    refine g_isub X (v := nI ((N 2 + 1) - 1)) dL_tells_821 (pk_sub (by omega)) ?_
    refine g_icN_ne X (a := (N 2)) (b := ((N 2 + 1) - 1)) (tgt := 829) (by omega) (by omega) dL_tells_822 (by decide) (fun h18 => absurd (by omega) h18) (fun h18 => ?_)
    refine g_iconst X (v := nI 1) dL_tells_825 (by decide +kernel) ?_
    refine g_goto X (tgt := 830) dL_tells_826 (by decide) ?_
    refine g_zret X hr hlk hQ (by decide +kernel) dL_tells_830 ⟨rfl, C16, N17, S, ?_, ?_, ?_⟩
    · rw [eN17, eC16]; exact LV_spring b a9 d9 hL hm hb (by omega)
    · rw [eN17]; refine ⟨?_, ?_, ?_⟩ <;> first | exact Nat.le_refl _ | exact Nat.le_succ _
    · rw [(show aC14 = C16 from by (repeat (first | rw [eaN15] | rw [eaC14] | rw [eaC12] | rw [eaC10] | rw [eN17] | rw [eC16])); first | done | rfl), (show aN15 = N17 from by (repeat (first | rw [eaN15] | rw [eaC14] | rw [eaC12] | rw [eaC10] | rw [eN17] | rw [eC16])); first | done | rfl)]
  · --
    refine g_iconst X (v := nI 1) dL_tells_738 (by decide +kernel) ?_
    refine g_zret X hr hlk hQ (by decide +kernel) dL_tells_739 ⟨rfl, C, N, S, ?_, ?_, ?_⟩
    · exact hL
    · exact ⟨Nat.le_refl _, Nat.le_refl _, Nat.le_refl _⟩
    · rfl
set_option maxRecDepth 100000 in
set_option maxHeartbeats 4000000 in
theorem n_tells_8 (l : Launch) (D : va_G) (cI cJ cZ : ClassId) (x y : Nat → Nat) (C : Cf) (N : Nat → Nat) (S : St) (Qk : Nat → Int64) (Z : St) (jC : Cf) (jN : Nat → Nat) (jS : St) (jQ : Nat → Int64) (jZ : St) (zv : Int32) (b : Nat) (hb : b < 12) (mo : Nat) (hm : mo ≤ 600) (hL : LV C N S mo) {p : Program} {e : Env} {s : State} {m : MethodId} {args : Array Value} {below : List Frame} {meth : Method} {c : Code} {A : Nat → Prop} (X : g_Cx p s m args c D A 16 cL_tells RL cI cJ cZ) (hr : meth.sig.returnType = (some .boolean)) (hlk : meth.locks = false) {Q : State → Prop} (hQ : MQ below (g_Post D A (TP x y cI cJ cZ N Qk Z jC jN jS jQ jZ mo)) args s 0 0 A = Q) : g_G p l e rm_L_tells s m args below meth c D A 16 0 0 Q (wX2 x cI cJ cZ C N S Qk Z jC jN jS jQ jZ ++ wL y cI cJ C N S Qk) [(0, .ref (x 0)), (1, .int (nI 8)), (2, .int zv), (3, .ref (y 0)), (4, .ref (y 1)), (5, .ref (y 2)), (6, .ref (y 4)), (7, .ref (y 5)), (8, .ref (y 7)), (9, .ref (y 9)), (10, .ref (y 12)), (11, .int (nI b))] 8 [] := by
  have hC := hL.c
  have hW := hL.wok hm
  have hn0 := hL.2.2.2.1
  have hn1 := hL.2.2.2.2.1
  have hn2 := hL.2.2.2.2.2
  refine g_iload_n X 1 dL_tells_8 rfl rfl ?_
  refine g_iN_ne X (a := 8) (tgt := 121) (by omega) dL_tells_9 (by decide) (fun h1 => ?_) (fun h1 => absurd h1 (by decide))
  refine g_iload_n X 1 dL_tells_121 rfl rfl ?_
  refine g_iconst X (v := nI 1) dL_tells_122 (by decide +kernel) ?_
  refine g_icN_ne X (a := 8) (b := 1) (tgt := 235) (by omega) (by omega) dL_tells_123 (by decide) (fun h2 => ?_) (fun h2 => absurd h2 (by decide))
  refine g_iload_n X 1 dL_tells_235 rfl rfl ?_
  refine g_iconst X (v := nI 2) dL_tells_236 (by decide +kernel) ?_
  refine g_icN_ne X (a := 8) (b := 2) (tgt := 278) (by omega) (by omega) dL_tells_237 (by decide) (fun h3 => ?_) (fun h3 => absurd h3 (by decide))
  refine g_iload_n X 1 dL_tells_278 rfl rfl ?_
  refine g_iconst X (v := nI 3) dL_tells_279 (by decide +kernel) ?_
  refine g_icN_ne X (a := 8) (b := 3) (tgt := 405) (by omega) (by omega) dL_tells_280 (by decide) (fun h4 => ?_) (fun h4 => absurd h4 (by decide))
  refine g_iload_n X 1 dL_tells_405 rfl rfl ?_
  refine g_iconst X (v := nI 4) dL_tells_406 (by decide +kernel) ?_
  refine g_icN_ne X (a := 8) (b := 4) (tgt := 533) (by omega) (by omega) dL_tells_407 (by decide) (fun h5 => ?_) (fun h5 => absurd h5 (by decide))
  refine g_iload_n X 1 dL_tells_533 rfl rfl ?_
  refine g_iconst X (v := nI 5) dL_tells_534 (by decide +kernel) ?_
  refine g_icN_ne X (a := 8) (b := 5) (tgt := 621) (by omega) (by omega) dL_tells_535 (by decide) (fun h6 => ?_) (fun h6 => absurd h6 (by decide))
  refine g_iload_n X 1 dL_tells_621 rfl rfl ?_
  refine g_bipush X (v := nI 6) dL_tells_622 (by decide +kernel) ?_
  refine g_icN_ne X (a := 8) (b := 6) (tgt := 724) (by omega) (by omega) dL_tells_624 (by decide) (fun h7 => ?_) (fun h7 => absurd h7 (by decide))
  refine g_iload_n X 1 dL_tells_724 rfl rfl ?_
  refine g_bipush X (v := nI 7) dL_tells_725 (by decide +kernel) ?_
  refine g_icN_ne X (a := 8) (b := 7) (tgt := 831) (by omega) (by omega) dL_tells_727 (by decide) (fun h8 => ?_) (fun h8 => absurd h8 (by decide))
  refine g_iload_n X 1 dL_tells_831 rfl rfl ?_
  refine g_bipush X (v := nI 8) dL_tells_832 (by decide +kernel) ?_
  refine g_icN_ne X (a := 8) (b := 8) (tgt := 913) (by omega) (by omega) dL_tells_834 (by decide) (fun h9 => absurd rfl h9) (fun h9 => ?_)
  refine g_aload X 10 dL_tells_837 rfl ?_
  refine g_iconst X (v := nI 2) dL_tells_839 (by decide +kernel) ?_
  refine g_iald X 83 rfl (2) rfl (by omega) (Nat.le_of_ble_eq_true rfl) (v := nI (N 2)) rfl dL_tells_840 ?_
  refine g_iN_ne X (a := (N 2)) (tgt := 846) (by omega) dL_tells_841 (by decide) (fun h10 => ?_) (fun h10 => ?_)
  · --
    refine g_iload_n X 2 dL_tells_846 rfl rfl ?_
    refine g_iconst X (v := nI 3) dL_tells_847 (by decide +kernel) ?_
    refine g_ishr X (v := zv >>> ((nI 3) &&& 31)) dL_tells_848 rfl ?_
    refine g_aload X 10 dL_tells_849 rfl ?_
    refine g_iconst X (v := nI 2) dL_tells_851 (by decide +kernel) ?_
    refine g_iald X 83 rfl (2) rfl (by omega) (Nat.le_of_ble_eq_true rfl) (v := nI (N 2)) rfl dL_tells_852 ?_
    have fl11 := lwN_lt (zv >>> ((nI 3) &&& 31)) (n := N 2) (by omega)
    refine g_callS X (As := [.int (zv >>> ((nI 3) &&& 31)), .int (nI (N 2))]) (rest := []) (m_L_low l D cI cJ cZ (zv >>> ((nI 3) &&& 31)) (N 2) (by omega) (by omega)) kM_L_114 kT_yL_low kZ_RL kC_yL_low hV_L_low rfl rfl rfl ⟨Nat.le_of_ble_eq_true rfl, Nat.le_of_ble_eq_true rfl⟩ ⟨Nat.le_of_ble_eq_true rfl, Nat.le_of_ble_eq_true rfl⟩ (Nat.le_of_ble_eq_true rfl) dL_tells_853 rfl [] rfl (by decide +kernel) (g_kk1 (w2 := wX2 x cI cJ cZ C N S Qk Z jC jN jS jQ jZ ++ wL y cI cJ C N S Qk) em0 ?_)
    obtain ⟨k9, ek9⟩ : ∃ z : Nat, z = lwN (zv >>> ((nI 3) &&& 31)) (N 2) := ⟨_, rfl⟩
    have hk9 : k9 < N 2 := by rw [ek9]; exact lwN_lt _ (by omega)
    refine g_st (st' := [.int (nI k9)]) (by rw [ek9]; first | done | rfl) ?_
    refine g_istore X [(12, .int (nI k9)), (0, .ref (x 0)), (1, .int (nI 8)), (2, .int zv), (3, .ref (y 0)), (4, .ref (y 1)), (5, .ref (y 2)), (6, .ref (y 4)), (7, .ref (y 5)), (8, .ref (y 7)), (9, .ref (y 9)), (10, .ref (y 12)), (11, .int (nI b))] dL_tells_856 (Nat.le_of_ble_eq_true rfl) rfl ?_
    refine g_aload X 9 dL_tells_858 rfl ?_
    refine g_iconst X (v := nI 5) dL_tells_860 (by decide +kernel) ?_
    refine g_iload X 0 dL_tells_861 rfl ?_
    refine g_imul X (v := nI (5 * k9)) dL_tells_863 (pk_mul _ _) ?_
    refine g_iconst X (v := nI 2) dL_tells_864 (by decide +kernel) ?_
    refine g_iadd X (v := nI (5 * k9 + 2)) dL_tells_865 ((nI_add _ _).trans (congrArg nI (by omega))) ?_
    refine g_iald X 78 rfl (5 * k9 + 2) rfl (by omega) (Nat.le_of_ble_eq_true rfl) (v := C 9 k9) (lrG_2 C S k9) dL_tells_866 ?_
    refine g_istore X [(13, .int (C 9 k9)), (12, .int (nI k9)), (0, .ref (x 0)), (1, .int (nI 8)), (2, .int zv), (3, .ref (y 0)), (4, .ref (y 1)), (5, .ref (y 2)), (6, .ref (y 4)), (7, .ref (y 5)), (8, .ref (y 7)), (9, .ref (y 9)), (10, .ref (y 12)), (11, .int (nI b))] dL_tells_867 (Nat.le_of_ble_eq_true rfl) rfl ?_
    refine g_aload X 10 dL_tells_869 rfl ?_
    refine g_iconst X (v := nI 5) dL_tells_871 (by decide +kernel) ?_
    refine g_iload X 1 dL_tells_872 rfl ?_
    refine g_imul X (v := nI (5 * k9)) dL_tells_874 (pk_mul _ _) ?_
    refine g_iconst X (v := nI 2) dL_tells_875 (by decide +kernel) ?_
    refine g_iadd X (v := nI (5 * k9 + 2)) dL_tells_876 ((nI_add _ _).trans (congrArg nI (by omega))) ?_
    refine g_iload_n X 4 dL_tells_877 rfl rfl ?_
    refine g_iconst X (v := nI 5) dL_tells_878 (by decide +kernel) ?_
    refine g_ishr X (v := zv >>> ((nI 5) &&& 31)) dL_tells_879 rfl ?_
    refine g_sipush X (v := nI 14000) dL_tells_880 (by decide +kernel) ?_
    have fl12 := lwN_lt (zv >>> ((nI 5) &&& 31)) (n := 14000) (by omega)
    refine g_callS X (As := [.int (zv >>> ((nI 5) &&& 31)), .int (nI 14000)]) (rest := [.int (nI (5 * k9 + 2)), .ref (y 7)]) (m_L_low l D cI cJ cZ (zv >>> ((nI 5) &&& 31)) 14000 (by omega) (by omega)) kM_L_114 kT_yL_low kZ_RL kC_yL_low hV_L_low rfl rfl rfl ⟨Nat.le_of_ble_eq_true rfl, Nat.le_of_ble_eq_true rfl⟩ ⟨Nat.le_of_ble_eq_true rfl, Nat.le_of_ble_eq_true rfl⟩ (Nat.le_of_ble_eq_true rfl) dL_tells_883 rfl [] rfl (by decide +kernel) (g_kk1 (w2 := wX2 x cI cJ cZ C N S Qk Z jC jN jS jQ jZ ++ wL y cI cJ C N S Qk) em0 ?_)
    obtain ⟨d9, ed9⟩ : ∃ z : Nat, z = lwN (zv >>> ((nI 5) &&& 31)) 14000 := ⟨_, rfl⟩
    have hd9 : d9 < 14000 := by rw [ed9]; exact lwN_lt _ (by omega)
    refine g_st (st' := [.int (nI d9), .int (nI (5 * k9 + 2)), .ref (y 7)]) (by rw [ed9]; first | done | rfl) ?_
    obtain ⟨aC13, eaC13⟩ : ∃ z : Cf, z = c2 C 9 k9 (nI d9) := ⟨_, rfl⟩
    refine g_iast X (ws' := wX2 x cI cJ cZ C N S Qk Z jC jN jS jQ jZ ++ wL y cI cJ aC13 N S Qk) 78 rfl (5 * k9 + 2) rfl (by omega) (Nat.le_of_ble_eq_true rfl) dL_tells_886 (by rw [eaC13]; first | done | (rw [lrG_w2]; rfl)) ?_
    refine g_aload_n X 2 dL_tells_887 rfl rfl ?_
    refine g_iload X 1 dL_tells_888 rfl ?_
    refine g_aload X 10 dL_tells_890 rfl ?_
    refine g_iconst X (v := nI 5) dL_tells_892 (by decide +kernel) ?_
    refine g_iload X 1 dL_tells_893 rfl ?_
    refine g_imul X (v := nI (5 * k9)) dL_tells_895 (pk_mul _ _) ?_
    refine g_iconst X (v := nI 2) dL_tells_896 (by decide +kernel) ?_
    refine g_iadd X (v := nI (5 * k9 + 2)) dL_tells_897 ((nI_add _ _).trans (congrArg nI (by omega))) ?_
    refine g_iald X 78 rfl (5 * k9 + 2) rfl (by omega) (Nat.le_of_ble_eq_true rfl) (v := nI d9) ((show _ = aC13 9 k9 from (lrG_2 aC13 S k9)).trans (by rw [eaC13, c2_ap, if_pos ⟨rfl, rfl⟩])) dL_tells_898 ?_
    obtain ⟨C14, eC14⟩ : ∃ z : Cf, z = c2 C 9 k9 (nI d9) := ⟨_, rfl⟩
    refine g_callV X (As := [.int (nI k9), .int (nI d9)]) (rest := []) (c_promise l D cI cJ cZ x (x 36) C N S Qk Z k9 d9 hk9 (by omega) hC) kM_L_144 kI_yX6_promise kS_yX6_promise kZ_RX6 kC_yX6_promise hV_X6_promise rfl rfl rfl 0 rfl (ci := 6) rfl ⟨Nat.le_of_ble_eq_true rfl, Nat.le_of_ble_eq_true rfl⟩ ⟨Nat.le_of_ble_eq_true rfl, Nat.le_of_ble_eq_true rfl⟩ (Nat.le_of_ble_eq_true rfl) dL_tells_899 rfl (em_I 0 36 36 0) (em_C (by decide) (Nat.le_of_ble_eq_true rfl) rfl) (em_nd (by decide)) (g_kk1 (w2 := wX2 x cI cJ cZ C14 N S Qk Z jC jN jS jQ jZ ++ wL y cI cJ aC13 N S Qk) (by rw [eC14]; exact (em3 0 36 36 0 (by decide) (Nat.le_of_ble_eq_true rfl) rfl rfl rfl)) ?_)
    refine g_iload X 0 dL_tells_902 rfl ?_
    refine g_icmp_ne X (tgt := 911) dL_tells_904 (by decide) (fun h15 => absurd rfl h15) (fun h15 => ?_)
    refine g_iconst X (v := nI 1) dL_tells_907 (by decide +kernel) ?_
    refine g_goto X (tgt := 912) dL_tells_908 (by decide) ?_
    refine g_zret X hr hlk hQ (by decide +kernel) dL_tells_912 ⟨rfl, C14, N, S, ?_, ?_, ?_⟩
    · rw [eC14]; exact LV_promise k9 d9 hL hm hk9
    · exact ⟨Nat.le_refl _, Nat.le_refl _, Nat.le_refl _⟩
    · rw [(show aC13 = C14 from by (repeat (first | rw [eaC13] | rw [eC14])); first | done | rfl)]
  · --
    refine g_iconst X (v := nI 1) dL_tells_844 (by decide +kernel) ?_
    refine g_zret X hr hlk hQ (by decide +kernel) dL_tells_845 ⟨rfl, C, N, S, ?_, ?_, ?_⟩
    · exact hL
    · exact ⟨Nat.le_refl _, Nat.le_refl _, Nat.le_refl _⟩
    · rfl
set_option maxRecDepth 100000 in
set_option maxHeartbeats 4000000 in
theorem n_tells_9 (l : Launch) (D : va_G) (cI cJ cZ : ClassId) (x y : Nat → Nat) (C : Cf) (N : Nat → Nat) (S : St) (Qk : Nat → Int64) (Z : St) (jC : Cf) (jN : Nat → Nat) (jS : St) (jQ : Nat → Int64) (jZ : St) (zv : Int32) (b : Nat) (hb : b < 12) (mo : Nat) (hm : mo ≤ 600) (hL : LV C N S mo) {p : Program} {e : Env} {s : State} {m : MethodId} {args : Array Value} {below : List Frame} {meth : Method} {c : Code} {A : Nat → Prop} (X : g_Cx p s m args c D A 16 cL_tells RL cI cJ cZ) (hr : meth.sig.returnType = (some .boolean)) (hlk : meth.locks = false) {Q : State → Prop} (hQ : MQ below (g_Post D A (TP x y cI cJ cZ N Qk Z jC jN jS jQ jZ mo)) args s 0 0 A = Q) : g_G p l e rm_L_tells s m args below meth c D A 16 0 0 Q (wX2 x cI cJ cZ C N S Qk Z jC jN jS jQ jZ ++ wL y cI cJ C N S Qk) [(0, .ref (x 0)), (1, .int (nI 9)), (2, .int zv), (3, .ref (y 0)), (4, .ref (y 1)), (5, .ref (y 2)), (6, .ref (y 4)), (7, .ref (y 5)), (8, .ref (y 7)), (9, .ref (y 9)), (10, .ref (y 12)), (11, .int (nI b))] 8 [] := by
  have hC := hL.c
  have hW := hL.wok hm
  have hn0 := hL.2.2.2.1
  have hn1 := hL.2.2.2.2.1
  have hn2 := hL.2.2.2.2.2
  refine g_iload_n X 1 dL_tells_8 rfl rfl ?_
  refine g_iN_ne X (a := 9) (tgt := 121) (by omega) dL_tells_9 (by decide) (fun h1 => ?_) (fun h1 => absurd h1 (by decide))
  refine g_iload_n X 1 dL_tells_121 rfl rfl ?_
  refine g_iconst X (v := nI 1) dL_tells_122 (by decide +kernel) ?_
  refine g_icN_ne X (a := 9) (b := 1) (tgt := 235) (by omega) (by omega) dL_tells_123 (by decide) (fun h2 => ?_) (fun h2 => absurd h2 (by decide))
  refine g_iload_n X 1 dL_tells_235 rfl rfl ?_
  refine g_iconst X (v := nI 2) dL_tells_236 (by decide +kernel) ?_
  refine g_icN_ne X (a := 9) (b := 2) (tgt := 278) (by omega) (by omega) dL_tells_237 (by decide) (fun h3 => ?_) (fun h3 => absurd h3 (by decide))
  refine g_iload_n X 1 dL_tells_278 rfl rfl ?_
  refine g_iconst X (v := nI 3) dL_tells_279 (by decide +kernel) ?_
  refine g_icN_ne X (a := 9) (b := 3) (tgt := 405) (by omega) (by omega) dL_tells_280 (by decide) (fun h4 => ?_) (fun h4 => absurd h4 (by decide))
  refine g_iload_n X 1 dL_tells_405 rfl rfl ?_
  refine g_iconst X (v := nI 4) dL_tells_406 (by decide +kernel) ?_
  refine g_icN_ne X (a := 9) (b := 4) (tgt := 533) (by omega) (by omega) dL_tells_407 (by decide) (fun h5 => ?_) (fun h5 => absurd h5 (by decide))
  refine g_iload_n X 1 dL_tells_533 rfl rfl ?_
  refine g_iconst X (v := nI 5) dL_tells_534 (by decide +kernel) ?_
  refine g_icN_ne X (a := 9) (b := 5) (tgt := 621) (by omega) (by omega) dL_tells_535 (by decide) (fun h6 => ?_) (fun h6 => absurd h6 (by decide))
  refine g_iload_n X 1 dL_tells_621 rfl rfl ?_
  refine g_bipush X (v := nI 6) dL_tells_622 (by decide +kernel) ?_
  refine g_icN_ne X (a := 9) (b := 6) (tgt := 724) (by omega) (by omega) dL_tells_624 (by decide) (fun h7 => ?_) (fun h7 => absurd h7 (by decide))
  refine g_iload_n X 1 dL_tells_724 rfl rfl ?_
  refine g_bipush X (v := nI 7) dL_tells_725 (by decide +kernel) ?_
  refine g_icN_ne X (a := 9) (b := 7) (tgt := 831) (by omega) (by omega) dL_tells_727 (by decide) (fun h8 => ?_) (fun h8 => absurd h8 (by decide))
  refine g_iload_n X 1 dL_tells_831 rfl rfl ?_
  refine g_bipush X (v := nI 8) dL_tells_832 (by decide +kernel) ?_
  refine g_icN_ne X (a := 9) (b := 8) (tgt := 913) (by omega) (by omega) dL_tells_834 (by decide) (fun h9 => ?_) (fun h9 => absurd h9 (by decide))
  refine g_aload_n X 3 dL_tells_913 rfl rfl ?_
  refine g_iload X 11 dL_tells_914 rfl ?_
  refine g_lald X 71 rfl (b) rfl (by omega) (Nat.le_of_ble_eq_true rfl) (v := S 0 b) rfl dL_tells_916 ?_
  refine g_lconst X (v := 0) dL_tells_917 (by decide +kernel) ?_
  refine g_lj_ne X (tgt := 924) (pc1 := 919) dL_tells_918 rfl dL_tells_919 (by decide) (fun h10 => ?_) (fun h10 => ?_)
  · --
    refine g_iconst X (v := nI 1) dL_tells_924 (by decide +kernel) ?_
    refine g_iload_n X 2 dL_tells_925 rfl rfl ?_
    refine g_iconst X (v := nI 3) dL_tells_926 (by decide +kernel) ?_
    refine g_ishr X (v := zv >>> ((nI 3) &&& 31)) dL_tells_927 rfl ?_
    refine g_ldc X kN_L_147 dL_tells_928 (v' := nI 100000) (by decide +kernel) ?_
    have fl11 := lwN_lt (zv >>> ((nI 3) &&& 31)) (n := 100000) (by omega)
    refine g_callS X (As := [.int (zv >>> ((nI 3) &&& 31)), .int (nI 100000)]) (rest := [.int (nI 1)]) (m_L_low l D cI cJ cZ (zv >>> ((nI 3) &&& 31)) 100000 (by omega) (by omega)) kM_L_114 kT_yL_low kZ_RL kC_yL_low hV_L_low rfl rfl rfl ⟨Nat.le_of_ble_eq_true rfl, Nat.le_of_ble_eq_true rfl⟩ ⟨Nat.le_of_ble_eq_true rfl, Nat.le_of_ble_eq_true rfl⟩ (Nat.le_of_ble_eq_true rfl) dL_tells_930 rfl [] rfl (by decide +kernel) (g_kk1 (w2 := wX2 x cI cJ cZ C N S Qk Z jC jN jS jQ jZ ++ wL y cI cJ C N S Qk) em0 ?_)
    obtain ⟨t9, et9⟩ : ∃ z : Nat, z = lwN (zv >>> ((nI 3) &&& 31)) 100000 := ⟨_, rfl⟩
    have ht9 : t9 < 100000 := by rw [et9]; exact lwN_lt _ (by omega)
    refine g_st (st' := [.int (nI t9), .int (nI 1)]) (by rw [et9]; first | done | rfl) ?_
    refine g_iadd X (v := nI (t9 + 1)) dL_tells_933 ((nI_add _ _).trans (congrArg nI (by omega))) ?_
    refine g_istore X [(12, .int (nI (t9 + 1))), (0, .ref (x 0)), (1, .int (nI 9)), (2, .int zv), (3, .ref (y 0)), (4, .ref (y 1)), (5, .ref (y 2)), (6, .ref (y 4)), (7, .ref (y 5)), (8, .ref (y 7)), (9, .ref (y 9)), (10, .ref (y 12)), (11, .int (nI b))] dL_tells_934 (Nat.le_of_ble_eq_true rfl) rfl ?_
    refine g_aload X 6 dL_tells_936 rfl ?_
    refine g_iload X 12 dL_tells_938 rfl ?_
    refine g_dup2_11 X dL_tells_940 rfl rfl ?_
    refine g_lald X 73 rfl (b) rfl (by omega) (Nat.le_of_ble_eq_true rfl) (v := S 2 b) rfl dL_tells_941 ?_
    refine g_iload X 0 dL_tells_942 rfl ?_
    refine g_i2l X (v := (nI (t9 + 1)).toInt64) dL_tells_944 rfl ?_
    refine g_ladd X (v := (S 2 b) + ((nI (t9 + 1)).toInt64)) dL_tells_945 rfl ?_
    obtain ⟨aS12, eaS12⟩ : ∃ z : St, z = u2 S 2 b ((S 2 b) + ((nI (t9 + 1)).toInt64)) := ⟨_, rfl⟩
    refine g_last X (ws' := wX2 x cI cJ cZ C N S Qk Z jC jN jS jQ jZ ++ wL y cI cJ C N aS12 Qk) 73 rfl (b) rfl (by omega) (Nat.le_of_ble_eq_true rfl) dL_tells_946 (by rw [eaS12]; first | done | (rfl)) ?_
    refine g_aload_n X 1 dL_tells_947 rfl rfl ?_
    refine g_iload X 12 dL_tells_948 rfl ?_
    refine g_iload X 0 dL_tells_950 rfl ?_
    obtain ⟨S13, eS13⟩ : ∃ z : St, z = u2 S 2 b (S 2 b + (nI (t9 + 1)).toInt64) := ⟨_, rfl⟩
    refine g_callV X (As := [.int (nI b), .int (nI (t9 + 1))]) (rest := []) (c_tracer l D cI cJ cZ x (x 36) C N S Qk Z b (t9 + 1) hb (by omega) (by omega) (by assumption) hW) kM_L_148 kI_yX6_tracer kS_yX6_tracer kZ_RX6 kC_yX6_tracer hV_X6_tracer rfl rfl rfl 0 rfl (ci := 6) rfl ⟨Nat.le_of_ble_eq_true rfl, Nat.le_of_ble_eq_true rfl⟩ ⟨Nat.le_of_ble_eq_true rfl, Nat.le_of_ble_eq_true rfl⟩ (Nat.le_of_ble_eq_true rfl) dL_tells_952 rfl (em_I 0 36 36 0) (em_C (by decide) (Nat.le_of_ble_eq_true rfl) rfl) (em_nd (by decide)) (g_kk1 (w2 := wX2 x cI cJ cZ C N S13 Qk Z jC jN jS jQ jZ ++ wL y cI cJ C N aS12 Qk) (by rw [eS13]; exact (em3 0 36 36 0 (by decide) (Nat.le_of_ble_eq_true rfl) rfl rfl rfl)) ?_)
    refine g_aload X 6 dL_tells_955 rfl ?_
    refine g_iload X 12 dL_tells_957 rfl ?_
    refine g_lald X 73 rfl (b) rfl (by omega) (Nat.le_of_ble_eq_true rfl) (v := aS12 2 b) rfl dL_tells_959 ?_
    refine g_lj_ne X (tgt := 968) (pc1 := 961) dL_tells_960 rfl dL_tells_961 (by decide) (fun h14 => absurd (by rw [eaS12, u2_same]) h14) (fun h14 => ?_)
    refine g_iconst X (v := nI 1) dL_tells_964 (by decide +kernel) ?_
    refine g_goto X (tgt := 969) dL_tells_965 (by decide) ?_
    refine g_zret X hr hlk hQ (by decide +kernel) dL_tells_969 ⟨rfl, C, N, S13, ?_, ?_, ?_⟩
    · rw [eS13]; exact LV_tracer b _ hL hm
    · exact ⟨Nat.le_refl _, Nat.le_refl _, Nat.le_refl _⟩
    · rw [(show aS12 = S13 from by (repeat (first | rw [eaS12] | rw [eS13])); first | done | rfl)]
  · --
    refine g_iconst X (v := nI 1) dL_tells_922 (by decide +kernel) ?_
    refine g_zret X hr hlk hQ (by decide +kernel) dL_tells_923 ⟨rfl, C, N, S, ?_, ?_, ?_⟩
    · exact hL
    · exact ⟨Nat.le_refl _, Nat.le_refl _, Nat.le_refl _⟩
    · rfl
