set_option maxRecDepth 100000 in
set_option maxHeartbeats 4000000 in
theorem m_L_same (l : Launch) (D : va_G) (cI cJ cZ : ClassId) (x y : Nat → Nat) (C : Cf) (N : Nat → Nat) (S : St) (Qk : Nat → Int64) (Z : St) (jC : Cf) (jN : Nat → Nat) (jS : St) (jQ : Nat → Int64) (jZ : St) (yv : Nat) (mo : Nat) (hm : mo ≤ 600) (hL : LV C N S mo) (hy : yv < 8388608) : g_Ct l D cI cJ cZ yL_same cL_same 17 (some .boolean) rm_L_same 0 0 [.ref (x 0), .int (nI yv), .ref (y 0), .ref (y 1), .ref (y 2), .ref (y 3), .ref (y 5), .ref (y 6), .ref (y 7), .ref (y 8), .ref (y 10), .ref (y 11), .ref (y 12)] (wX2 x cI cJ cZ C N S Qk Z jC jN jS jQ jZ ++ wL y cI cJ C N S Qk) (g_eq (some (.int (nI 1))) (wX2 x cI cJ cZ C N S Qk Z jC jN jS jQ jZ ++ wL y cI cJ C N S Qk)) := by
  refine g_body RL [(0, .ref (x 0)), (1, .int (nI yv)), (2, .ref (y 0)), (3, .ref (y 1)), (4, .ref (y 2)), (5, .ref (y 3)), (6, .ref (y 5)), (7, .ref (y 6)), (8, .ref (y 7)), (9, .ref (y 8)), (10, .ref (y 10)), (11, .ref (y 11)), (12, .ref (y 12))] kH_L rfl (Nat.le_of_ble_eq_true rfl) rfl ?_
  intro p e s m args below meth c A X hr hlk hmn Q hQ
  have hC := hL.c
  have hW := hL.wok hm
  have hShr := hL.shr
  have hq := hL.q hm
  have hSm := hL.2.2.1
  have hn0 := hL.2.2.2.1
  have hn1 := hL.2.2.2.2.1
  have hn2 := hL.2.2.2.2.2
  have hZB := hL.1.2.2.2.2.1
  have hB := hL.1.2.2.2.2.2.2.2.2.2.1
  have hq2 := hq.2
  refine g_aload_n X 0 dL_same_0 rfl rfl ?_
  refine g_iconst X (v := nI 0) dL_same_1 (by decide +kernel) ?_
  refine g_callV X (As := [.int (nI 0)]) (rest := []) (c_count l D cI cJ cZ x (x 36) C N S Qk Z 0 (by decide)) kM_L_80 kI_yX6_count kS_yX6_count kZ_RX6 kC_yX6_count hV_X6_count rfl rfl rfl 0 rfl (ci := 6) rfl ⟨Nat.le_of_ble_eq_true rfl, Nat.le_of_ble_eq_true rfl⟩ ⟨Nat.le_of_ble_eq_true rfl, Nat.le_of_ble_eq_true rfl⟩ (Nat.le_of_ble_eq_true rfl) dL_same_2 rfl (em_I 0 36 36 0) (em_C (by decide) (Nat.le_of_ble_eq_true rfl) rfl) (em_nd (by decide)) (g_kk1 (w2 := wX2 x cI cJ cZ C N S Qk Z jC jN jS jQ jZ ++ wL y cI cJ C N S Qk) (em3 0 36 36 0 (by decide) (Nat.le_of_ble_eq_true rfl) rfl rfl rfl) ?_)
  refine g_aload X 12 dL_same_5 rfl ?_
  refine g_iconst X (v := nI 0) dL_same_7 (by decide +kernel) ?_
  refine g_iald X 83 rfl (0) rfl (by omega) (Nat.le_of_ble_eq_true rfl) (v := (S 13 0).toInt32) rfl dL_same_8 ?_
  refine g_icmp_ne X (tgt := 48) dL_same_9 (by decide) (fun h1 => absurd (cn_0 _ _) h1) (fun h1 => ?_)
  refine g_aload_n X 0 dL_same_12 rfl rfl ?_
  refine g_iconst X (v := nI 4) dL_same_13 (by decide +kernel) ?_
  refine g_callV X (As := [.int (nI 4)]) (rest := []) (c_count l D cI cJ cZ x (x 36) C N S Qk Z 4 (by decide)) kM_L_80 kI_yX6_count kS_yX6_count kZ_RX6 kC_yX6_count hV_X6_count rfl rfl rfl 0 rfl (ci := 6) rfl ⟨Nat.le_of_ble_eq_true rfl, Nat.le_of_ble_eq_true rfl⟩ ⟨Nat.le_of_ble_eq_true rfl, Nat.le_of_ble_eq_true rfl⟩ (Nat.le_of_ble_eq_true rfl) dL_same_14 rfl (em_I 0 36 36 0) (em_C (by decide) (Nat.le_of_ble_eq_true rfl) rfl) (em_nd (by decide)) (g_kk1 (w2 := wX2 x cI cJ cZ C N S Qk Z jC jN jS jQ jZ ++ wL y cI cJ C N S Qk) (em3 0 36 36 0 (by decide) (Nat.le_of_ble_eq_true rfl) rfl rfl rfl) ?_)
  refine g_aload X 12 dL_same_17 rfl ?_
  refine g_iconst X (v := nI 4) dL_same_19 (by decide +kernel) ?_
  refine g_iald X 83 rfl (4) rfl (by omega) (Nat.le_of_ble_eq_true rfl) (v := (S 14 0).toInt32) rfl dL_same_20 ?_
  refine g_icmp_ne X (tgt := 48) dL_same_21 (by decide) (fun h2 => absurd (cn_4 _ _) h2) (fun h2 => ?_)
  refine g_aload_n X 0 dL_same_24 rfl rfl ?_
  refine g_callV X (As := []) (rest := []) (m_X6_share l D cI cJ cZ x (x 36) C N S Qk Z hShr) kM_L_86 kI_yX6_share kS_yX6_share kZ_RX6 kC_yX6_share hV_X6_share rfl rfl rfl 0 rfl (ci := 6) rfl ⟨Nat.le_of_ble_eq_true rfl, Nat.le_of_ble_eq_true rfl⟩ ⟨Nat.le_of_ble_eq_true rfl, Nat.le_of_ble_eq_true rfl⟩ (Nat.le_of_ble_eq_true rfl) dL_same_25 rfl (em_I 0 36 36 0) (em_C (by decide) (Nat.le_of_ble_eq_true rfl) rfl) (em_nd (by decide)) (g_kk1 (w2 := wX2 x cI cJ cZ C N S Qk Z jC jN jS jQ jZ ++ wL y cI cJ C N S Qk) (em3 0 36 36 0 (by decide) (Nat.le_of_ble_eq_true rfl) rfl rfl rfl) ?_)
  refine g_aload X 10 dL_same_28 rfl ?_
  refine g_bipush X (v := nI 6) dL_same_30 (by decide +kernel) ?_
  refine g_lald X 81 rfl (6) rfl (by omega) (Nat.le_of_ble_eq_true rfl) (v := S 12 6) rfl dL_same_32 ?_
  refine g_aload X 10 dL_same_33 rfl ?_
  refine g_bipush X (v := nI 7) dL_same_35 (by decide +kernel) ?_
  refine g_lald X 81 rfl (7) rfl (by omega) (Nat.le_of_ble_eq_true rfl) (v := S 12 7) rfl dL_same_37 ?_
  refine g_callS X (As := [.long (S 12 6), .long (S 12 7)]) (rest := [.int (shM S)]) (m_L_shareI l D cI cJ cZ (S 12 6) (S 12 7) hShr) kM_L_90 kT_yL_share kZ_RL kC_yL_share hV_L_share rfl rfl rfl ⟨Nat.le_of_ble_eq_true rfl, Nat.le_of_ble_eq_true rfl⟩ ⟨Nat.le_of_ble_eq_true rfl, Nat.le_of_ble_eq_true rfl⟩ (Nat.le_of_ble_eq_true rfl) dL_same_38 rfl [] rfl (by decide +kernel) (g_kk1 (w2 := wX2 x cI cJ cZ C N S Qk Z jC jN jS jQ jZ ++ wL y cI cJ C N S Qk) em0 ?_)
  refine g_icmp_ne X (tgt := 48) dL_same_41 (by decide) (fun h3 => absurd rfl h3) (fun h3 => ?_)
  refine g_iconst X (v := nI 1) dL_same_44 (by decide +kernel) ?_
  refine g_goto X (tgt := 49) dL_same_45 (by decide) ?_
  refine g_istore X [(13, .int (nI 1)), (0, .ref (x 0)), (1, .int (nI yv)), (2, .ref (y 0)), (3, .ref (y 1)), (4, .ref (y 2)), (5, .ref (y 3)), (6, .ref (y 5)), (7, .ref (y 6)), (8, .ref (y 7)), (9, .ref (y 8)), (10, .ref (y 10)), (11, .ref (y 11)), (12, .ref (y 12))] dL_same_49 (Nat.le_of_ble_eq_true rfl) rfl ?_
  refine g_lconst X (v := 0) dL_same_51 (by decide +kernel) ?_
  refine g_lstore X [(14, .long (0 : Int64)), (13, .int (nI 1)), (0, .ref (x 0)), (1, .int (nI yv)), (2, .ref (y 0)), (3, .ref (y 1)), (4, .ref (y 2)), (5, .ref (y 3)), (6, .ref (y 5)), (7, .ref (y 6)), (8, .ref (y 7)), (9, .ref (y 8)), (10, .ref (y 10)), (11, .ref (y 11)), (12, .ref (y 12))] dL_same_52 (Nat.le_of_ble_eq_true rfl) rfl ?_
  refine g_iconst X (v := nI 0) dL_same_54 (by decide +kernel) ?_
  refine g_istore X [(16, .int (nI 0)), (14, .long (0 : Int64)), (13, .int (nI 1)), (0, .ref (x 0)), (1, .int (nI yv)), (2, .ref (y 0)), (3, .ref (y 1)), (4, .ref (y 2)), (5, .ref (y 3)), (6, .ref (y 5)), (7, .ref (y 6)), (8, .ref (y 7)), (9, .ref (y 8)), (10, .ref (y 10)), (11, .ref (y 11)), (12, .ref (y 12))] dL_same_55 (Nat.le_of_ble_eq_true rfl) rfl ?_
  have L4 : ∀ (n6 i5 : Nat) (a7 : Int64), i5 + n6 = 12 → a7 = itr (fun i a => a + S 0 i) 0 i5 → g_G p l e rm_L_same s m args below meth c D A 17 0 0 Q (wX2 x cI cJ cZ C N S Qk Z jC jN jS jQ jZ ++ wL y cI cJ C N S Qk) [(0, .ref (x 0)), (1, .int (nI yv)), (2, .ref (y 0)), (3, .ref (y 1)), (4, .ref (y 2)), (5, .ref (y 3)), (6, .ref (y 5)), (7, .ref (y 6)), (8, .ref (y 7)), (9, .ref (y 8)), (10, .ref (y 10)), (11, .ref (y 11)), (12, .ref (y 12)), (13, .int (nI 1)), (14, .long a7), (16, .int (nI i5))] 57 [] := by
    intro n6
    induction n6 with
    | zero =>
      intro i5 a7 hi8 ea7
      obtain rfl : i5 = 12 := by omega
      refine g_iload X 15 dL_same_57 rfl ?_
      refine g_bipush X (v := nI 12) dL_same_59 (by decide +kernel) ?_
      refine g_icN_ge X (a := 12) (b := 12) (tgt := 226) (by omega) (by omega) dL_same_61 (by decide) (fun h9 => ?_) (fun h9 => absurd h9 (by omega))
      refine g_iload X 13 dL_same_226 rfl ?_
      refine g_iN_eq X (a := 1) (tgt := 246) (by omega) dL_same_228 (by decide) (fun h10 => absurd h10 (by decide)) (fun h10 => ?_)
      refine g_aload_n X 0 dL_same_231 rfl rfl ?_
      refine g_iconst X (v := nI 0) dL_same_232 (by decide +kernel) ?_
      refine g_callV X (As := [.int (nI 0)]) (rest := []) (c_sum l D cI cJ cZ x (x 36) C N S Qk Z 0 (by decide)) kM_L_97 kI_yX6_sum kS_yX6_sum kZ_RX6 kC_yX6_sum hV_X6_sum rfl rfl rfl 0 rfl (ci := 6) rfl ⟨Nat.le_of_ble_eq_true rfl, Nat.le_of_ble_eq_true rfl⟩ ⟨Nat.le_of_ble_eq_true rfl, Nat.le_of_ble_eq_true rfl⟩ (Nat.le_of_ble_eq_true rfl) dL_same_233 rfl (em_I 0 36 36 0) (em_C (by decide) (Nat.le_of_ble_eq_true rfl) rfl) (em_nd (by decide)) (g_kk1 (w2 := wX2 x cI cJ cZ C N S Qk Z jC jN jS jQ jZ ++ wL y cI cJ C N S Qk) (em3 0 36 36 0 (by decide) (Nat.le_of_ble_eq_true rfl) rfl rfl rfl) ?_)
      refine g_lload X 14 dL_same_236 rfl ?_
      refine g_lj_ne X (tgt := 246) (pc1 := 239) dL_same_238 rfl dL_same_239 (by decide) (fun h11 => absurd (by rw [ea7]; exact sm_0 _) h11) (fun h11 => ?_)
      refine g_iconst X (v := nI 1) dL_same_242 (by decide +kernel) ?_
      refine g_goto X (tgt := 247) dL_same_243 (by decide) ?_
      refine g_istore X [(13, .int (nI 1)), (0, .ref (x 0)), (1, .int (nI yv)), (2, .ref (y 0)), (3, .ref (y 1)), (4, .ref (y 2)), (5, .ref (y 3)), (6, .ref (y 5)), (7, .ref (y 6)), (8, .ref (y 7)), (9, .ref (y 8)), (10, .ref (y 10)), (11, .ref (y 11)), (12, .ref (y 12)), (14, .long a7), (16, .int (nI 12))] dL_same_247 (Nat.le_of_ble_eq_true rfl) rfl ?_
      refine g_iconst X (v := nI 1) dL_same_249 (by decide +kernel) ?_
      refine g_istore X [(16, .int (nI 1)), (13, .int (nI 1)), (0, .ref (x 0)), (1, .int (nI yv)), (2, .ref (y 0)), (3, .ref (y 1)), (4, .ref (y 2)), (5, .ref (y 3)), (6, .ref (y 5)), (7, .ref (y 6)), (8, .ref (y 7)), (9, .ref (y 8)), (10, .ref (y 10)), (11, .ref (y 11)), (12, .ref (y 12)), (14, .long a7)] dL_same_250 (Nat.le_of_ble_eq_true rfl) rfl ?_
      have L12 : ∀ (n14 i13 : Nat) , i13 + n14 = 8 → 1 ≤ i13 → g_G p l e rm_L_same s m args below meth c D A 17 0 0 Q (wX2 x cI cJ cZ C N S Qk Z jC jN jS jQ jZ ++ wL y cI cJ C N S Qk) [(0, .ref (x 0)), (6, .ref (y 5)), (7, .ref (y 6)), (8, .ref (y 7)), (9, .ref (y 8)), (10, .ref (y 10)), (11, .ref (y 11)), (12, .ref (y 12)), (13, .int (nI 1)), (16, .int (nI i13))] 252 [] := by
        intro n14
        induction n14 with
        | zero =>
          intro i13  hi15  h1i
          obtain rfl : i13 = 8 := by omega
          refine g_iload X 9 dL_same_252 rfl ?_
          refine g_bipush X (v := nI 8) dL_same_254 (by decide +kernel) ?_
          refine g_icN_ge X (a := 8) (b := 8) (tgt := 292) (by omega) (by omega) dL_same_256 (by decide) (fun h16 => ?_) (fun h16 => absurd h16 (by omega))
          exact n_L_same_292 l D cI cJ cZ x y C N S Qk Z jC jN jS jQ jZ yv mo hm hL hy X hr hlk hQ a7 ea7
        | succ n14 ihL12 =>
          intro i13  hi15  h1i
          have hlti13 : i13 < 8 := by omega
          refine g_iload X 9 dL_same_252 rfl ?_
          refine g_bipush X (v := nI 8) dL_same_254 (by decide +kernel) ?_
          refine g_icN_ge X (a := i13) (b := 8) (tgt := 292) (by omega) (by omega) dL_same_256 (by decide) (fun h66 => absurd h66 (by omega)) (fun h66 => ?_)
          refine g_iload X 8 dL_same_259 rfl ?_
          refine g_iN_eq X (a := 1) (tgt := 292) (by omega) dL_same_261 (by decide) (fun h67 => absurd h67 (by decide)) (fun h67 => ?_)
          refine g_aload_n X 0 dL_same_264 rfl rfl ?_
          refine g_iload X 9 dL_same_265 rfl ?_
          refine g_callV X (As := [.int (nI i13)]) (rest := []) (c_sum l D cI cJ cZ x (x 36) C N S Qk Z i13 (by omega)) kM_L_97 kI_yX6_sum kS_yX6_sum kZ_RX6 kC_yX6_sum hV_X6_sum rfl rfl rfl 0 rfl (ci := 6) rfl ⟨Nat.le_of_ble_eq_true rfl, Nat.le_of_ble_eq_true rfl⟩ ⟨Nat.le_of_ble_eq_true rfl, Nat.le_of_ble_eq_true rfl⟩ (Nat.le_of_ble_eq_true rfl) dL_same_267 rfl (em_I 0 36 36 0) (em_C (by decide) (Nat.le_of_ble_eq_true rfl) rfl) (em_nd (by decide)) (g_kk1 (w2 := wX2 x cI cJ cZ C N S Qk Z jC jN jS jQ jZ ++ wL y cI cJ C N S Qk) (em3 0 36 36 0 (by decide) (Nat.le_of_ble_eq_true rfl) rfl rfl rfl) ?_)
          refine g_aload X 5 dL_same_270 rfl ?_
          refine g_iload X 9 dL_same_272 rfl ?_
          refine g_lald X 81 rfl (i13) rfl (by omega) (Nat.le_of_ble_eq_true rfl) (v := S 12 i13) rfl dL_same_274 ?_
          refine g_lj_ne X (tgt := 283) (pc1 := 276) dL_same_275 rfl dL_same_276 (by decide) (fun h68 => absurd (sm_i S (by omega) (by omega)) h68) (fun h68 => ?_)
          refine g_iconst X (v := nI 1) dL_same_279 (by decide +kernel) ?_
          refine g_goto X (tgt := 284) dL_same_280 (by decide) ?_
          refine g_istore X [(13, .int (nI 1)), (0, .ref (x 0)), (6, .ref (y 5)), (7, .ref (y 6)), (8, .ref (y 7)), (9, .ref (y 8)), (10, .ref (y 10)), (11, .ref (y 11)), (12, .ref (y 12)), (16, .int (nI i13))] dL_same_284 (Nat.le_of_ble_eq_true rfl) rfl ?_
          refine g_iinc X [(16, .int (nI (i13 + 1))), (13, .int (nI 1)), (0, .ref (x 0)), (6, .ref (y 5)), (7, .ref (y 6)), (8, .ref (y 7)), (9, .ref (y 8)), (10, .ref (y 10)), (11, .ref (y 11)), (12, .ref (y 12))] (q := 9) (v := nI (i13 + 1)) dL_same_286 rfl ((congrArg (fun z => nI (i13) + z) (show Int32.ofInt 1 = nI 1 by decide +kernel)).trans ((nI_add _ _).trans (congrArg nI (by omega)))) (Nat.le_of_ble_eq_true rfl) rfl ?_
          refine g_goto X (tgt := 252) dL_same_289 (by decide) ?_
          refine g_lv _ [2, 3, 4, 5, 6, 7, 8, 9, 1, 0] rfl ?_
          exact ihL12 (i13 + 1)  (by omega)  (by omega)
      refine g_lv _ [2, 8, 9, 10, 11, 12, 13, 14, 1, 0] rfl ?_
      exact L12 (8 - 1) 1  (by omega)  (by omega)
    | succ n6 ihL4 =>
      intro i5 a7 hi8 ea7
      have hlti5 : i5 < 12 := by omega
      refine g_iload X 15 dL_same_57 rfl ?_
      refine g_bipush X (v := nI 12) dL_same_59 (by decide +kernel) ?_
      refine g_icN_ge X (a := i5) (b := 12) (tgt := 226) (by omega) (by omega) dL_same_61 (by decide) (fun h69 => absurd h69 (by omega)) (fun h69 => ?_)
      refine g_iload X 13 dL_same_64 rfl ?_
      refine g_iN_eq X (a := 1) (tgt := 226) (by omega) dL_same_66 (by decide) (fun h70 => absurd h70 (by decide)) (fun h70 => ?_)
      refine g_lload X 14 dL_same_69 rfl ?_
      refine g_aload_n X 2 dL_same_71 rfl rfl ?_
      refine g_iload X 15 dL_same_72 rfl ?_
      refine g_lald X 71 rfl (i5) rfl (by omega) (Nat.le_of_ble_eq_true rfl) (v := S 0 i5) rfl dL_same_74 ?_
      refine g_ladd X (v := a7 + (S 0 i5)) dL_same_75 rfl ?_
      refine g_lstore X [(14, .long (a7 + (S 0 i5))), (0, .ref (x 0)), (1, .int (nI yv)), (2, .ref (y 0)), (3, .ref (y 1)), (4, .ref (y 2)), (5, .ref (y 3)), (6, .ref (y 5)), (7, .ref (y 6)), (8, .ref (y 7)), (9, .ref (y 8)), (10, .ref (y 10)), (11, .ref (y 11)), (12, .ref (y 12)), (13, .int (nI 1)), (16, .int (nI i5))] dL_same_76 (Nat.le_of_ble_eq_true rfl) rfl ?_
      refine g_aload_n X 1 dL_same_78 rfl rfl ?_
      refine g_iload X 15 dL_same_79 rfl ?_
      refine g_iconst X (v := nI 0) dL_same_81 (by decide +kernel) ?_
      refine g_callV X (As := [.int (nI i5), .int (nI 0)]) (rest := []) (c_ofBlock l D cI cJ cZ x (x 36) C N S Qk Z i5 0 (by omega) (by decide) hW) kM_L_93 kI_yX6_ofBlock kS_yX6_ofBlock kZ_RX6 kC_yX6_ofBlock hV_X6_ofBlock rfl rfl rfl 0 rfl (ci := 6) rfl ⟨Nat.le_of_ble_eq_true rfl, Nat.le_of_ble_eq_true rfl⟩ ⟨Nat.le_of_ble_eq_true rfl, Nat.le_of_ble_eq_true rfl⟩ (Nat.le_of_ble_eq_true rfl) dL_same_82 rfl (em_I 0 36 36 0) (em_C (by decide) (Nat.le_of_ble_eq_true rfl) rfl) (em_nd (by decide)) (g_kk1 (w2 := wX2 x cI cJ cZ C N S Qk Z jC jN jS jQ jZ ++ wL y cI cJ C N S Qk) (em3 0 36 36 0 (by decide) (Nat.le_of_ble_eq_true rfl) rfl rfl rfl) ?_)
      refine g_aload_n X 3 dL_same_85 rfl rfl ?_
      refine g_iload X 15 dL_same_86 rfl ?_
      refine g_lald X 71 rfl (i5) rfl (by omega) (Nat.le_of_ble_eq_true rfl) (v := S 0 i5) rfl dL_same_88 ?_
      refine g_lj_ne X (tgt := 217) (pc1 := 90) dL_same_89 rfl dL_same_90 (by decide) (fun h71 => absurd rfl h71) (fun h71 => ?_)
      refine g_aload_n X 1 dL_same_93 rfl rfl ?_
      refine g_iload X 15 dL_same_94 rfl ?_
      refine g_iconst X (v := nI 2) dL_same_96 (by decide +kernel) ?_
      refine g_callV X (As := [.int (nI i5), .int (nI 2)]) (rest := []) (c_ofBlock l D cI cJ cZ x (x 36) C N S Qk Z i5 2 (by omega) (by decide) hW) kM_L_93 kI_yX6_ofBlock kS_yX6_ofBlock kZ_RX6 kC_yX6_ofBlock hV_X6_ofBlock rfl rfl rfl 0 rfl (ci := 6) rfl ⟨Nat.le_of_ble_eq_true rfl, Nat.le_of_ble_eq_true rfl⟩ ⟨Nat.le_of_ble_eq_true rfl, Nat.le_of_ble_eq_true rfl⟩ (Nat.le_of_ble_eq_true rfl) dL_same_97 rfl (em_I 0 36 36 0) (em_C (by decide) (Nat.le_of_ble_eq_true rfl) rfl) (em_nd (by decide)) (g_kk1 (w2 := wX2 x cI cJ cZ C N S Qk Z jC jN jS jQ jZ ++ wL y cI cJ C N S Qk) (em3 0 36 36 0 (by decide) (Nat.le_of_ble_eq_true rfl) rfl rfl rfl) ?_)
      refine g_aload_n X 4 dL_same_100 rfl rfl ?_
      refine g_iload X 15 dL_same_101 rfl ?_
      refine g_lald X 72 rfl (i5) rfl (by omega) (Nat.le_of_ble_eq_true rfl) (v := S 1 i5) rfl dL_same_103 ?_
      refine g_lj_ne X (tgt := 217) (pc1 := 105) dL_same_104 rfl dL_same_105 (by decide) (fun h72 => absurd rfl h72) (fun h72 => ?_)
      refine g_aload_n X 1 dL_same_108 rfl rfl ?_
      refine g_iload X 15 dL_same_109 rfl ?_
      refine g_iconst X (v := nI 3) dL_same_111 (by decide +kernel) ?_
      refine g_callV X (As := [.int (nI i5), .int (nI 3)]) (rest := []) (c_ofBlock l D cI cJ cZ x (x 36) C N S Qk Z i5 3 (by omega) (by decide) hW) kM_L_93 kI_yX6_ofBlock kS_yX6_ofBlock kZ_RX6 kC_yX6_ofBlock hV_X6_ofBlock rfl rfl rfl 0 rfl (ci := 6) rfl ⟨Nat.le_of_ble_eq_true rfl, Nat.le_of_ble_eq_true rfl⟩ ⟨Nat.le_of_ble_eq_true rfl, Nat.le_of_ble_eq_true rfl⟩ (Nat.le_of_ble_eq_true rfl) dL_same_112 rfl (em_I 0 36 36 0) (em_C (by decide) (Nat.le_of_ble_eq_true rfl) rfl) (em_nd (by decide)) (g_kk1 (w2 := wX2 x cI cJ cZ C N S Qk Z jC jN jS jQ jZ ++ wL y cI cJ C N S Qk) (em3 0 36 36 0 (by decide) (Nat.le_of_ble_eq_true rfl) rfl rfl rfl) ?_)
      refine g_aload X 5 dL_same_115 rfl ?_
      refine g_iload X 15 dL_same_117 rfl ?_
      refine g_lald X 73 rfl (i5) rfl (by omega) (Nat.le_of_ble_eq_true rfl) (v := S 2 i5) rfl dL_same_119 ?_
      refine g_lj_ne X (tgt := 217) (pc1 := 121) dL_same_120 rfl dL_same_121 (by decide) (fun h73 => absurd rfl h73) (fun h73 => ?_)
      refine g_aload_n X 1 dL_same_124 rfl rfl ?_
      refine g_iload X 15 dL_same_125 rfl ?_
      refine g_iconst X (v := nI 4) dL_same_127 (by decide +kernel) ?_
      refine g_callV X (As := [.int (nI i5), .int (nI 4)]) (rest := []) (c_ofBlock l D cI cJ cZ x (x 36) C N S Qk Z i5 4 (by omega) (by decide) hW) kM_L_93 kI_yX6_ofBlock kS_yX6_ofBlock kZ_RX6 kC_yX6_ofBlock hV_X6_ofBlock rfl rfl rfl 0 rfl (ci := 6) rfl ⟨Nat.le_of_ble_eq_true rfl, Nat.le_of_ble_eq_true rfl⟩ ⟨Nat.le_of_ble_eq_true rfl, Nat.le_of_ble_eq_true rfl⟩ (Nat.le_of_ble_eq_true rfl) dL_same_128 rfl (em_I 0 36 36 0) (em_C (by decide) (Nat.le_of_ble_eq_true rfl) rfl) (em_nd (by decide)) (g_kk1 (w2 := wX2 x cI cJ cZ C N S Qk Z jC jN jS jQ jZ ++ wL y cI cJ C N S Qk) (em3 0 36 36 0 (by decide) (Nat.le_of_ble_eq_true rfl) rfl rfl rfl) ?_)
      refine g_aload X 6 dL_same_131 rfl ?_
      refine g_iload X 15 dL_same_133 rfl ?_
      refine g_lald X 74 rfl (i5) rfl (by omega) (Nat.le_of_ble_eq_true rfl) (v := S 3 i5) rfl dL_same_135 ?_
      refine g_lj_ne X (tgt := 217) (pc1 := 137) dL_same_136 rfl dL_same_137 (by decide) (fun h74 => absurd rfl h74) (fun h74 => ?_)
      refine g_iload X 15 dL_same_140 rfl ?_
      refine g_iconst X (v := nI 4) dL_same_142 (by decide +kernel) ?_
      refine g_irem X (v := nI (i5 % 4)) dL_same_143 (by decide +kernel) (pk_rem (by omega) (by decide) (by decide)) ?_
      refine g_iload_n X 2 dL_same_144 rfl rfl ?_
      refine g_iconst X (v := nI 4) dL_same_145 (by decide +kernel) ?_
      refine g_irem X (v := nI (yv % 4)) dL_same_146 (by decide +kernel) (pk_rem (by omega) (by decide) (by decide)) ?_
      have J82 : g_G p l e rm_L_same s m args below meth c D A 17 0 0 Q (wX2 x cI cJ cZ C N S Qk Z jC jN jS jQ jZ ++ wL y cI cJ C N S Qk) [(0, .ref (x 0)), (1, .int (nI yv)), (2, .ref (y 0)), (3, .ref (y 1)), (4, .ref (y 2)), (5, .ref (y 3)), (6, .ref (y 5)), (7, .ref (y 6)), (8, .ref (y 7)), (9, .ref (y 8)), (10, .ref (y 10)), (11, .ref (y 11)), (12, .ref (y 12)), (14, .long (a7 + (S 0 i5))), (16, .int (nI i5))] 218 [.int (nI 1)] := by
        refine g_istore X [(13, .int (nI 1)), (0, .ref (x 0)), (1, .int (nI yv)), (2, .ref (y 0)), (3, .ref (y 1)), (4, .ref (y 2)), (5, .ref (y 3)), (6, .ref (y 5)), (7, .ref (y 6)), (8, .ref (y 7)), (9, .ref (y 8)), (10, .ref (y 10)), (11, .ref (y 11)), (12, .ref (y 12)), (14, .long (a7 + (S 0 i5))), (16, .int (nI i5))] dL_same_218 (Nat.le_of_ble_eq_true rfl) rfl ?_
        refine g_iinc X [(16, .int (nI (i5 + 1))), (13, .int (nI 1)), (0, .ref (x 0)), (1, .int (nI yv)), (2, .ref (y 0)), (3, .ref (y 1)), (4, .ref (y 2)), (5, .ref (y 3)), (6, .ref (y 5)), (7, .ref (y 6)), (8, .ref (y 7)), (9, .ref (y 8)), (10, .ref (y 10)), (11, .ref (y 11)), (12, .ref (y 12)), (14, .long (a7 + (S 0 i5)))] (q := 15) (v := nI (i5 + 1)) dL_same_220 rfl ((congrArg (fun z => nI (i5) + z) (show Int32.ofInt 1 = nI 1 by decide +kernel)).trans ((nI_add _ _).trans (congrArg nI (by omega)))) (Nat.le_of_ble_eq_true rfl) rfl ?_
        refine g_goto X (tgt := 57) dL_same_223 (by decide) ?_
        refine g_lv _ [2, 3, 4, 5, 6, 7, 8, 9, 10, 11, 12, 13, 14, 1, 15, 0] rfl ?_
        exact ihL4 (i5 + 1) _ (by omega) (by (try rw [ea7]); first | done | (rfl))
      refine g_icN_ne X (a := (i5 % 4)) (b := (yv % 4)) (tgt := 213) (by omega) (by omega) dL_same_147 (by decide) (fun h75 => ?_) (fun h75 => ?_)
      · --
        refine g_iconst X (v := nI 1) dL_same_213 (by decide +kernel) ?_
        refine g_goto X (tgt := 218) dL_same_214 (by decide) ?_
        refine g_lv _ [1, 2, 3, 4, 5, 6, 7, 8, 9, 10, 11, 12, 13, 0, 15] rfl ?_
        exact J82
      · --
        refine g_aload_n X 1 dL_same_150 rfl rfl ?_
        refine g_iload X 15 dL_same_151 rfl ?_
        refine g_iconst X (v := nI 1) dL_same_153 (by decide +kernel) ?_
        refine g_callV X (As := [.int (nI i5), .int (nI 1)]) (rest := []) (c_ofBlock l D cI cJ cZ x (x 36) C N S Qk Z i5 1 (by omega) (by decide) hW) kM_L_93 kI_yX6_ofBlock kS_yX6_ofBlock kZ_RX6 kC_yX6_ofBlock hV_X6_ofBlock rfl rfl rfl 0 rfl (ci := 6) rfl ⟨Nat.le_of_ble_eq_true rfl, Nat.le_of_ble_eq_true rfl⟩ ⟨Nat.le_of_ble_eq_true rfl, Nat.le_of_ble_eq_true rfl⟩ (Nat.le_of_ble_eq_true rfl) dL_same_154 rfl (em_I 0 36 36 0) (em_C (by decide) (Nat.le_of_ble_eq_true rfl) rfl) (em_nd (by decide)) (g_kk1 (w2 := wX2 x cI cJ cZ C N S Qk Z jC jN jS jQ jZ ++ wL y cI cJ C N S Qk) (em3 0 36 36 0 (by decide) (Nat.le_of_ble_eq_true rfl) rfl rfl rfl) ?_)
        refine g_iload X 15 dL_same_157 rfl ?_
        refine g_aload_n X 3 dL_same_159 rfl rfl ?_
        refine g_aload_n X 4 dL_same_160 rfl rfl ?_
        refine g_callS X (As := [.int (nI i5), .ref (y 0), .ref (y 1)]) (rest := [.long (tellG S i5 1)]) (m_L_hot l D cI cJ cZ y C N S Qk i5 (by omega) (hW.ne (by omega))) kM_L_18 kT_yL_hot kZ_RL kC_yL_hot hV_L_hot rfl rfl rfl ⟨Nat.le_of_ble_eq_true rfl, Nat.le_of_ble_eq_true rfl⟩ ⟨Nat.le_of_ble_eq_true rfl, Nat.le_of_ble_eq_true rfl⟩ (Nat.le_of_ble_eq_true rfl) dL_same_161 rfl (em_I 71 13 84 0) (em_C (by decide) (Nat.le_of_ble_eq_true rfl) rfl) (em_nd (by decide)) (g_kk1 (w2 := wX2 x cI cJ cZ C N S Qk Z jC jN jS jQ jZ ++ wL y cI cJ C N S Qk) (em3 71 13 84 0 (by decide) (Nat.le_of_ble_eq_true rfl) rfl rfl rfl) ?_)
        refine g_lj_ne X (tgt := 217) (pc1 := 165) dL_same_164 rfl dL_same_165 (by decide) (fun h76 => absurd rfl h76) (fun h76 => ?_)
        refine g_aload_n X 1 dL_same_168 rfl rfl ?_
        refine g_iload X 15 dL_same_169 rfl ?_
        refine g_iconst X (v := nI 5) dL_same_171 (by decide +kernel) ?_
        refine g_callV X (As := [.int (nI i5), .int (nI 5)]) (rest := []) (c_ofBlock l D cI cJ cZ x (x 36) C N S Qk Z i5 5 (by omega) (by decide) hW) kM_L_93 kI_yX6_ofBlock kS_yX6_ofBlock kZ_RX6 kC_yX6_ofBlock hV_X6_ofBlock rfl rfl rfl 0 rfl (ci := 6) rfl ⟨Nat.le_of_ble_eq_true rfl, Nat.le_of_ble_eq_true rfl⟩ ⟨Nat.le_of_ble_eq_true rfl, Nat.le_of_ble_eq_true rfl⟩ (Nat.le_of_ble_eq_true rfl) dL_same_172 rfl (em_I 0 36 36 0) (em_C (by decide) (Nat.le_of_ble_eq_true rfl) rfl) (em_nd (by decide)) (g_kk1 (w2 := wX2 x cI cJ cZ C N S Qk Z jC jN jS jQ jZ ++ wL y cI cJ C N S Qk) (em3 0 36 36 0 (by decide) (Nat.le_of_ble_eq_true rfl) rfl rfl rfl) ?_)
        refine g_aload X 6 dL_same_175 rfl ?_
        refine g_iload X 15 dL_same_177 rfl ?_
        refine g_lald X 74 rfl (i5) rfl (by omega) (Nat.le_of_ble_eq_true rfl) (v := S 3 i5) rfl dL_same_179 ?_
        refine g_ldc2 X kL_L_22 dL_same_180 ?_
        have J80 : ∀ (v79 : Nat), v79 = (if (S 3 i5) ≤ (1999 : Int64) then if (S 3 i5) ≤ (999 : Int64) then 0 else 1 else 2) → g_G p l e rm_L_same s m args below meth c D A 17 0 0 Q (wX2 x cI cJ cZ C N S Qk Z jC jN jS jQ jZ ++ wL y cI cJ C N S Qk) [(0, .ref (x 0)), (1, .int (nI yv)), (2, .ref (y 0)), (3, .ref (y 1)), (4, .ref (y 2)), (5, .ref (y 3)), (6, .ref (y 5)), (7, .ref (y 6)), (8, .ref (y 7)), (9, .ref (y 8)), (10, .ref (y 10)), (11, .ref (y 11)), (12, .ref (y 12)), (14, .long (a7 + (S 0 i5))), (16, .int (nI i5))] 208 [.int (nI v79), .long (tellG S i5 5)] := by
          intro v79 ev79
          have bv79 : v79 < 2147483648 := by subst ev79; (repeat' split) <;> omega
          replace ev79 := ev79.trans (show _ = lig S i5 from lig_l _ _)
          refine g_i2l X (v := (nI v79).toInt64) dL_same_208 rfl ?_
          refine g_lj_ne X (tgt := 217) (pc1 := 210) dL_same_209 rfl dL_same_210 (by decide) (fun h81 => absurd (show tellG S i5 5 = (nI v79).toInt64 by rw [ev79]; rfl) h81) (fun h81 => ?_)
          refine g_iconst X (v := nI 1) dL_same_213 (by decide +kernel) ?_
          refine g_goto X (tgt := 218) dL_same_214 (by decide) ?_
          exact J82
        refine g_lj_le X (tgt := 191) (pc1 := 184) dL_same_183 rfl dL_same_184 (by decide) (fun h77 => ?_) (fun h77 => ?_)
        · --
          refine g_aload X 6 dL_same_191 rfl ?_
          refine g_iload X 15 dL_same_193 rfl ?_
          refine g_lald X 74 rfl (i5) rfl (by omega) (Nat.le_of_ble_eq_true rfl) (v := S 3 i5) rfl dL_same_195 ?_
          refine g_ldc2 X kL_L_48 dL_same_196 ?_
          refine g_lj_le X (tgt := 207) (pc1 := 200) dL_same_199 rfl dL_same_200 (by decide) (fun h78 => ?_) (fun h78 => ?_)
          · --
            refine g_iconst X (v := nI 0) dL_same_207 (by decide +kernel) ?_
            refine g_lv _ [1, 2, 3, 4, 5, 6, 7, 8, 9, 10, 11, 12, 13, 0, 15] rfl ?_
            exact J80 _ (by rw [if_pos (c := (S 3 i5) ≤ (1999 : Int64)) h77, if_pos (c := (S 3 i5) ≤ (999 : Int64)) h78])
          · --
            refine g_iconst X (v := nI 1) dL_same_203 (by decide +kernel) ?_
            refine g_goto X (tgt := 208) dL_same_204 (by decide) ?_
            refine g_lv _ [1, 2, 3, 4, 5, 6, 7, 8, 9, 10, 11, 12, 13, 0, 15] rfl ?_
            exact J80 _ (by rw [if_pos (c := (S 3 i5) ≤ (1999 : Int64)) h77, if_neg (c := (S 3 i5) ≤ (999 : Int64)) h78])
        · --
          refine g_iconst X (v := nI 2) dL_same_187 (by decide +kernel) ?_
          refine g_goto X (tgt := 208) dL_same_188 (by decide) ?_
          refine g_lv _ [1, 2, 3, 4, 5, 6, 7, 8, 9, 10, 11, 12, 13, 0, 15] rfl ?_
          exact J80 _ (by rw [if_neg (c := (S 3 i5) ≤ (1999 : Int64)) h77])
  refine g_lv _ [3, 4, 5, 6, 7, 8, 9, 10, 11, 12, 13, 14, 15, 2, 1, 0] rfl ?_
  exact L4 (12) 0 _ (by omega) (by first | rfl | (first | done | rfl))
