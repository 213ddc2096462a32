set_option maxRecDepth 100000 in
set_option maxHeartbeats 4000000 in
theorem n_tells_0 (l : Launch) (D : va_G) (cI cJ cZ : ClassId) (x y : Nat → Nat) (C : Cf) (N : Nat → Nat) (S : St) (Qk : Nat → Int64) (Z : St) (jC : Cf) (jN : Nat → Nat) (jS : St) (jQ : Nat → Int64) (jZ : St) (zv : Int32) (b : Nat) (hb : b < 12) (mo : Nat) (hm : mo ≤ 600) (hL : LV C N S mo) {p : Program} {e : Env} {s : State} {m : MethodId} {args : Array Value} {below : List Frame} {meth : Method} {c : Code} {A : Nat → Prop} (X : g_Cx p s m args c D A 16 cL_tells RL cI cJ cZ) (hr : meth.sig.returnType = (some .boolean)) (hlk : meth.locks = false) {Q : State → Prop} (hQ : MQ below (g_Post D A (TP x y cI cJ cZ N Qk Z jC jN jS jQ jZ mo)) args s 0 0 A = Q) : g_G p l e rm_L_tells s m args below meth c D A 16 0 0 Q (wX2 x cI cJ cZ C N S Qk Z jC jN jS jQ jZ ++ wL y cI cJ C N S Qk) [(0, .ref (x 0)), (1, .int (nI 0)), (2, .int zv), (3, .ref (y 0)), (4, .ref (y 1)), (5, .ref (y 2)), (6, .ref (y 4)), (7, .ref (y 5)), (8, .ref (y 7)), (9, .ref (y 9)), (10, .ref (y 12)), (11, .int (nI b))] 8 [] := by
  have hC := hL.c
  have hW := hL.wok hm
  have hn0 := hL.2.2.2.1
  have hn1 := hL.2.2.2.2.1
  have hn2 := hL.2.2.2.2.2
  refine g_iload_n X 1 dL_tells_8 rfl rfl ?_
  refine g_iN_ne X (a := 0) (tgt := 121) (by omega) dL_tells_9 (by decide) (fun h1 => absurd rfl h1) (fun h1 => ?_)
  refine g_aload X 10 dL_tells_12 rfl ?_
  refine g_iconst X (v := nI 0) dL_tells_14 (by decide +kernel) ?_
  refine g_iald X 83 rfl (0) rfl (by omega) (Nat.le_of_ble_eq_true rfl) (v := nI mo) ((show _ = (S 13 0).toInt32 from rfl).trans (by rw [hL.m13]; exact lN_i _)) dL_tells_15 ?_
  refine g_iN_le X (a := mo) (tgt := 21) (by omega) dL_tells_16 (by decide) (fun h2 => ?_) (fun h2 => ?_)
  · --
    refine g_aload_n X 3 dL_tells_21 rfl rfl ?_
    refine g_iload X 11 dL_tells_22 rfl ?_
    refine g_lald X 71 rfl (b) rfl (by omega) (Nat.le_of_ble_eq_true rfl) (v := S 0 b) rfl dL_tells_24 ?_
    refine g_lstore X [(12, .long (S 0 b)), (0, .ref (x 0)), (1, .int (nI 0)), (2, .int zv), (3, .ref (y 0)), (4, .ref (y 1)), (5, .ref (y 2)), (6, .ref (y 4)), (7, .ref (y 5)), (8, .ref (y 7)), (9, .ref (y 9)), (10, .ref (y 12)), (11, .int (nI b))] dL_tells_25 (Nat.le_of_ble_eq_true rfl) rfl ?_
    have fl1 := lwN_lt (zv >>> (nI 6 &&& 31)) (n := 50001) (by decide)
    have fl2 := lwN_lt (zv >>> (nI 6 &&& 31)) (n := 12) (by decide)
    refine g_iload_n X 3 dL_tells_27 rfl rfl ?_
    refine g_iconst X (v := nI 4) dL_tells_28 (by decide +kernel) ?_
    refine g_ishr X (v := zv >>> ((nI 4) &&& 31)) dL_tells_29 rfl ?_
    refine g_iconst X (v := nI 4) dL_tells_30 (by decide +kernel) ?_
    have fl3 := lwN_lt (zv >>> ((nI 4) &&& 31)) (n := 4) (by omega)
    refine g_callS X (As := [.int (zv >>> ((nI 4) &&& 31)), .int (nI 4)]) (rest := []) (m_L_low l D cI cJ cZ (zv >>> ((nI 4) &&& 31)) 4 (by omega) (by omega)) kM_L_114 kT_yL_low kZ_RL kC_yL_low hV_L_low rfl rfl rfl ⟨Nat.le_of_ble_eq_true rfl, Nat.le_of_ble_eq_true rfl⟩ ⟨Nat.le_of_ble_eq_true rfl, Nat.le_of_ble_eq_true rfl⟩ (Nat.le_of_ble_eq_true rfl) dL_tells_31 rfl [] rfl (by decide +kernel) (g_kk1 (w2 := wX2 x cI cJ cZ C N S Qk Z jC jN jS jQ jZ ++ wL y cI cJ C N S Qk) em0 ?_)
    have J8 : ∀ (v7 : Nat), v7 = (if ¬ (lwN (zv >>> ((nI 4) &&& 31)) 4) = 0 then 1000 * (lwN (zv >>> ((nI 6) &&& 31)) 12) else lwN (zv >>> ((nI 6) &&& 31)) 50001) → g_G p l e rm_L_tells s m args below meth c D A 16 0 0 Q (wX2 x cI cJ cZ C N S Qk Z jC jN jS jQ jZ ++ wL y cI cJ C N S Qk) [(0, .ref (x 0)), (2, .int zv), (3, .ref (y 0)), (4, .ref (y 1)), (11, .int (nI b)), (12, .long (S 0 b))] 62 [.int (nI v7)] := by
      intro v7 ev7
      have bv7 : v7 < 2147483648 := by subst ev7; (repeat' split) <;> omega
      have bw : v7 ≤ 50000 := by subst ev7; split <;> omega
      refine g_istore X [(14, .int (nI v7)), (0, .ref (x 0)), (2, .int zv), (3, .ref (y 0)), (4, .ref (y 1)), (11, .int (nI b)), (12, .long (S 0 b))] dL_tells_62 (Nat.le_of_ble_eq_true rfl) rfl ?_
      refine g_iload_n X 2 dL_tells_64 rfl rfl ?_
      refine g_iconst X (v := nI 5) dL_tells_65 (by decide +kernel) ?_
      refine g_ishr X (v := zv >>> ((nI 5) &&& 31)) dL_tells_66 rfl ?_
      refine g_sipush X (v := nI 351) dL_tells_67 (by decide +kernel) ?_
      have fl9 := lwN_lt (zv >>> ((nI 5) &&& 31)) (n := 351) (by omega)
      refine g_callS X (As := [.int (zv >>> ((nI 5) &&& 31)), .int (nI 351)]) (rest := []) (m_L_low l D cI cJ cZ (zv >>> ((nI 5) &&& 31)) 351 (by omega) (by omega)) kM_L_114 kT_yL_low kZ_RL kC_yL_low hV_L_low rfl rfl rfl ⟨Nat.le_of_ble_eq_true rfl, Nat.le_of_ble_eq_true rfl⟩ ⟨Nat.le_of_ble_eq_true rfl, Nat.le_of_ble_eq_true rfl⟩ (Nat.le_of_ble_eq_true rfl) dL_tells_70 rfl [] rfl (by decide +kernel) (g_kk1 (w2 := wX2 x cI cJ cZ C N S Qk Z jC jN jS jQ jZ ++ wL y cI cJ C N S Qk) em0 ?_)
      obtain ⟨d9, ed9⟩ : ∃ z : Nat, z = lwN (zv >>> ((nI 5) &&& 31)) 351 := ⟨_, rfl⟩
      have hd9 : d9 < 351 := by rw [ed9]; exact lwN_lt _ (by omega)
      refine g_st (st' := [.int (nI d9)]) (by rw [ed9]; first | done | rfl) ?_
      refine g_istore X [(15, .int (nI d9)), (14, .int (nI v7)), (0, .ref (x 0)), (2, .int zv), (3, .ref (y 0)), (4, .ref (y 1)), (11, .int (nI b)), (12, .long (S 0 b))] dL_tells_73 (Nat.le_of_ble_eq_true rfl) rfl ?_
      refine g_aload_n X 4 dL_tells_75 rfl rfl ?_
      refine g_iload X 6 dL_tells_76 rfl ?_
      refine g_iload X 1 dL_tells_78 rfl ?_
      refine g_i2l X (v := (nI v7).toInt64) dL_tells_80 rfl ?_
      obtain ⟨aS10, eaS10⟩ : ∃ z : St, z = u2 S 0 b ((nI v7).toInt64) := ⟨_, rfl⟩
      refine g_last X (ws' := wX2 x cI cJ cZ C N S Qk Z jC jN jS jQ jZ ++ wL y cI cJ C N aS10 Qk) 71 rfl (b) rfl (by omega) (Nat.le_of_ble_eq_true rfl) dL_tells_81 (by rw [eaS10]; first | done | (rfl)) ?_
      refine g_aload X 5 dL_tells_82 rfl ?_
      refine g_iload X 6 dL_tells_84 rfl ?_
      refine g_iload X 0 dL_tells_86 rfl ?_
      refine g_i2l X (v := (nI d9).toInt64) dL_tells_88 rfl ?_
      refine g_iload X 1 dL_tells_89 rfl ?_
      refine g_sipush X (v := nI 20000) dL_tells_91 (by decide +kernel) ?_
      refine g_iadd X (v := nI v7 + nI 20000) dL_tells_94 rfl ?_
      refine g_i2l X (v := (nI v7 + nI 20000).toInt64) dL_tells_95 rfl ?_
      refine g_lmul X (v := ((nI d9).toInt64) * ((nI v7 + nI 20000).toInt64)) dL_tells_96 rfl ?_
      obtain ⟨aS11, eaS11⟩ : ∃ z : St, z = u2 aS10 1 b (((nI d9).toInt64) * ((nI v7 + nI 20000).toInt64)) := ⟨_, rfl⟩
      refine g_last X (ws' := wX2 x cI cJ cZ C N S Qk Z jC jN jS jQ jZ ++ wL y cI cJ C N aS11 Qk) 72 rfl (b) rfl (by omega) (Nat.le_of_ble_eq_true rfl) dL_tells_97 (by rw [eaS11]; first | done | (rfl)) ?_
      have hS13 : S 13 0 = 0 := by rw [hL.m13, show mo = 0 by omega]; rfl
      refine g_aload_n X 2 dL_tells_98 rfl rfl ?_
      refine g_iload X 6 dL_tells_99 rfl ?_
      refine g_iload X 1 dL_tells_101 rfl ?_
      refine g_iload X 0 dL_tells_103 rfl ?_
      obtain ⟨S12, eS12⟩ : ∃ z : St, z = u2 (u2 S 0 b (nI v7).toInt64) 1 b ((nI d9).toInt64 * ((nI v7) + nI 20000).toInt64) := ⟨_, rfl⟩
      refine g_callV X (As := [.int (nI b), .int (nI v7), .int (nI d9)]) (rest := []) (c_block l D cI cJ cZ x (x 36) C N S Qk Z b v7 d9 hb bw (by omega) hS13) kM_L_118 kI_yX6_block kS_yX6_block kZ_RX6 kC_yX6_block hV_X6_block rfl rfl rfl 0 rfl (ci := 6) rfl ⟨Nat.le_of_ble_eq_true rfl, Nat.le_of_ble_eq_true rfl⟩ ⟨Nat.le_of_ble_eq_true rfl, Nat.le_of_ble_eq_true rfl⟩ (Nat.le_of_ble_eq_true rfl) dL_tells_105 rfl (em_I 0 36 36 0) (em_C (by decide) (Nat.le_of_ble_eq_true rfl) rfl) (em_nd (by decide)) (g_kk1 (w2 := wX2 x cI cJ cZ C N S12 Qk Z jC jN jS jQ jZ ++ wL y cI cJ C N aS11 Qk) (by rw [eS12]; exact (em3 0 36 36 0 (by decide) (Nat.le_of_ble_eq_true rfl) rfl rfl rfl)) ?_)
      refine g_i2l X (v := ((S 0 b).toInt32).toInt64) dL_tells_108 rfl ?_
      refine g_lload X 7 dL_tells_109 rfl ?_
      refine g_lj_ne X (tgt := 119) (pc1 := 112) dL_tells_111 rfl dL_tells_112 (by decide) (fun h13 => absurd (l32 (by have := hL.1.2.2.2.2.2.1 b hb; omega)) h13) (fun h13 => ?_)
      refine g_iconst X (v := nI 1) dL_tells_115 (by decide +kernel) ?_
      refine g_goto X (tgt := 120) dL_tells_116 (by decide) ?_
      refine g_zret X hr hlk hQ (by decide +kernel) dL_tells_120 ⟨rfl, C, N, S12, ?_, ?_, ?_⟩
      · rw [eS12]; exact LV_block b v7 d9 hL hm hb bw (by omega) hS13
      · exact ⟨Nat.le_refl _, Nat.le_refl _, Nat.le_refl _⟩
      · rw [(show aS11 = S12 from by (repeat (first | rw [eaS11] | rw [eaS10] | rw [eS12])); first | done | rfl)]
    refine g_iN_ne X (a := (lwN (zv >>> ((nI 4) &&& 31)) 4)) (tgt := 49) (by omega) dL_tells_34 (by decide) (fun h4 => ?_) (fun h4 => ?_)
    · --
      refine g_iload_n X 3 dL_tells_49 rfl rfl ?_
      refine g_bipush X (v := nI 6) dL_tells_50 (by decide +kernel) ?_
      refine g_ishr X (v := zv >>> ((nI 6) &&& 31)) dL_tells_52 rfl ?_
      refine g_bipush X (v := nI 12) dL_tells_53 (by decide +kernel) ?_
      have fl5 := lwN_lt (zv >>> ((nI 6) &&& 31)) (n := 12) (by omega)
      refine g_callS X (As := [.int (zv >>> ((nI 6) &&& 31)), .int (nI 12)]) (rest := []) (m_L_low l D cI cJ cZ (zv >>> ((nI 6) &&& 31)) 12 (by omega) (by omega)) kM_L_114 kT_yL_low kZ_RL kC_yL_low hV_L_low rfl rfl rfl ⟨Nat.le_of_ble_eq_true rfl, Nat.le_of_ble_eq_true rfl⟩ ⟨Nat.le_of_ble_eq_true rfl, Nat.le_of_ble_eq_true rfl⟩ (Nat.le_of_ble_eq_true rfl) dL_tells_55 rfl [] rfl (by decide +kernel) (g_kk1 (w2 := wX2 x cI cJ cZ C N S Qk Z jC jN jS jQ jZ ++ wL y cI cJ C N S Qk) em0 ?_)
      refine g_sipush X (v := nI 1000) dL_tells_58 (by decide +kernel) ?_
      refine g_imul X (v := nI (1000 * (lwN (zv >>> ((nI 6) &&& 31)) 12))) dL_tells_61 ((pk_mul _ _).trans (congrArg nI (by omega))) ?_
      refine g_lv _ [1, 3, 4, 5, 12, 0] rfl ?_
      exact J8 _ (by rw [if_pos (c := ¬ (lwN (zv >>> ((nI 4) &&& 31)) 4) = 0) h4])
    · --
      refine g_iload_n X 3 dL_tells_37 rfl rfl ?_
      refine g_bipush X (v := nI 6) dL_tells_38 (by decide +kernel) ?_
      refine g_ishr X (v := zv >>> ((nI 6) &&& 31)) dL_tells_40 rfl ?_
      refine g_ldc X kN_L_117 dL_tells_41 (v' := nI 50001) (by decide +kernel) ?_
      have fl6 := lwN_lt (zv >>> ((nI 6) &&& 31)) (n := 50001) (by omega)
      refine g_callS X (As := [.int (zv >>> ((nI 6) &&& 31)), .int (nI 50001)]) (rest := []) (m_L_low l D cI cJ cZ (zv >>> ((nI 6) &&& 31)) 50001 (by omega) (by omega)) kM_L_114 kT_yL_low kZ_RL kC_yL_low hV_L_low rfl rfl rfl ⟨Nat.le_of_ble_eq_true rfl, Nat.le_of_ble_eq_true rfl⟩ ⟨Nat.le_of_ble_eq_true rfl, Nat.le_of_ble_eq_true rfl⟩ (Nat.le_of_ble_eq_true rfl) dL_tells_43 rfl [] rfl (by decide +kernel) (g_kk1 (w2 := wX2 x cI cJ cZ C N S Qk Z jC jN jS jQ jZ ++ wL y cI cJ C N S Qk) em0 ?_)
      refine g_goto X (tgt := 62) dL_tells_46 (by decide) ?_
      refine g_lv _ [1, 3, 4, 5, 12, 0] rfl ?_
      exact J8 _ (by rw [if_neg (c := ¬ (lwN (zv >>> ((nI 4) &&& 31)) 4) = 0) (fun z => z h4)])
  · --
    refine g_iconst X (v := nI 1) dL_tells_19 (by decide +kernel) ?_
    refine g_zret X hr hlk hQ (by decide +kernel) dL_tells_20 ⟨rfl, C, N, S, ?_, ?_, ?_⟩
    · exact hL
    · exact ⟨Nat.le_refl _, Nat.le_refl _, Nat.le_refl _⟩
    · rfl
