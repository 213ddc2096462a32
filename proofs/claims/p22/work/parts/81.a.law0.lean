set_option maxRecDepth 100000 in
set_option maxHeartbeats 4000000 in
theorem n_law_tail (l : Launch) (D : va_G) (cI cJ cZ : ClassId) (x y : Nat → Nat) (b : Nat) {p : Program} {e : Env} {s : State} {m : MethodId} {args : Array Value} {below : List Frame} {meth : Method} {c : Code} {A : Nat → Prop} (X : g_Cx p s m args c D A 25 cL_law RL cI cJ cZ) {Q : State → Prop} (C : Cf) (N : Nat → Nat) (S : St) (Qk : Nat → Int64) (Z : St) (jC : Cf) (jN : Nat → Nat) (jS : St) (jQ : Nat → Int64) (jZ : St) (zv : Int32) (tn : Nat) (htn : tn < 60) (mo : Nat) (hm : mo ≤ 600) (hL : LV C N S mo) (kc ks : Nat) (hkc : kc ≤ 600130) (hks : ks ≤ 7301080) (kk : g_G p l e room_1 s m args below meth c D A 25 kc ks Q (wX2 x cI cJ cZ C N S Qk Z jC jN jS jQ jZ ++ wL y cI cJ C N S Qk) [(0, .ref b), (1, .ref (x 0)), (2, .ref (y 0)), (3, .ref (y 1)), (4, .ref (y 2)), (5, .ref (y 3)), (6, .ref (y 4)), (7, .ref (y 5)), (8, .ref (y 6)), (9, .ref (y 7)), (10, .ref (y 8)), (11, .ref (y 9)), (12, .ref (y 10)), (13, .ref (y 11)), (14, .ref (y 12)), (15, .int (nI 1)), (16, .int (nI (tn + 1)))] 140 []) : g_G p l e room_1 s m args below meth c D A 25 kc ks Q (wX2 x cI cJ cZ C N S Qk Z jC jN jS jQ jZ ++ wL y cI cJ C N S Qk) [(0, .ref b), (1, .ref (x 0)), (2, .ref (y 0)), (3, .ref (y 1)), (4, .ref (y 2)), (5, .ref (y 3)), (6, .ref (y 4)), (7, .ref (y 5)), (8, .ref (y 6)), (9, .ref (y 7)), (10, .ref (y 8)), (11, .ref (y 9)), (12, .ref (y 10)), (13, .ref (y 11)), (14, .ref (y 12)), (15, .int (nI 1)), (16, .int (nI tn)), (19, .int zv)] 471 [] := by
  obtain ⟨yv, hyv, eyv⟩ := and23 (zv >>> (nI 1 &&& 31))
  refine g_iload X 15 dL_law_471 rfl ?_
  refine g_iN_eq X (a := 1) (tgt := 514) (by omega) dL_law_473 (by decide) (fun h1 => absurd h1 (by decide)) (fun h1 => ?_)
  refine g_aload_n X 1 dL_law_476 rfl rfl ?_
  refine g_iload X 17 dL_law_477 rfl ?_
  refine g_iconst X (v := nI 1) dL_law_479 (by decide +kernel) ?_
  refine g_ishr X (v := zv >>> ((nI 1) &&& 31)) dL_law_480 rfl ?_
  refine g_ldc X kN_L_179 dL_law_481 (v' := nI 8388607) (by decide +kernel) ?_
  refine g_andi X (v := nI yv) dL_law_483 eyv ?_
  refine g_aload_n X 2 dL_law_484 rfl rfl ?_
  refine g_aload_n X 3 dL_law_485 rfl rfl ?_
  refine g_aload X 4 dL_law_486 rfl ?_
  refine g_aload X 5 dL_law_488 rfl ?_
  refine g_aload X 7 dL_law_490 rfl ?_
  refine g_aload X 8 dL_law_492 rfl ?_
  refine g_aload X 9 dL_law_494 rfl ?_
  refine g_aload X 10 dL_law_496 rfl ?_
  refine g_aload X 12 dL_law_498 rfl ?_
  refine g_aload X 13 dL_law_500 rfl ?_
  refine g_aload X 14 dL_law_502 rfl ?_
  refine g_callS X (As := [.ref (x 0), .int (nI yv), .ref (y 0), .ref (y 1), .ref (y 2), .ref (y 3), .ref (y 5), .ref (y 6), .ref (y 7), .ref (y 8), .ref (y 10), .ref (y 11), .ref (y 12)]) (rest := []) (m_L_same l D cI cJ cZ x y C N S Qk Z jC jN jS jQ jZ yv mo hm hL hyv) kM_L_180 kT_yL_same kZ_RL kC_yL_same hV_L_same rfl rfl rfl ⟨Nat.le_of_ble_eq_true rfl, Nat.le_of_ble_eq_true rfl⟩ (show _ ≤ 600130 ∧ _ ≤ 7301080 by omega) (Nat.le_of_ble_eq_true rfl) dL_law_504 rfl (em_I 0 84 84 0) (em_C (by decide) (Nat.le_of_ble_eq_true rfl) rfl) (em_nd (by decide)) (g_kk1 (w2 := wX2 x cI cJ cZ C N S Qk Z jC jN jS jQ jZ ++ wL y cI cJ C N S Qk) (em3 0 84 84 0 (by decide) (Nat.le_of_ble_eq_true rfl) rfl rfl rfl) ?_)
  refine g_iN_eq X (a := 1) (tgt := 514) (by omega) dL_law_507 (by decide) (fun h2 => absurd h2 (by decide)) (fun h2 => ?_)
  refine g_iconst X (v := nI 1) dL_law_510 (by decide +kernel) ?_
  refine g_goto X (tgt := 515) dL_law_511 (by decide) ?_
  refine g_istore X [(15, .int (nI 1)), (0, .ref b), (1, .ref (x 0)), (2, .ref (y 0)), (3, .ref (y 1)), (4, .ref (y 2)), (5, .ref (y 3)), (6, .ref (y 4)), (7, .ref (y 5)), (8, .ref (y 6)), (9, .ref (y 7)), (10, .ref (y 8)), (11, .ref (y 9)), (12, .ref (y 10)), (13, .ref (y 11)), (14, .ref (y 12)), (16, .int (nI tn)), (19, .int zv)] dL_law_515 (Nat.le_of_ble_eq_true rfl) rfl ?_
  refine g_iinc X [(16, .int (nI (tn + 1))), (15, .int (nI 1)), (0, .ref b), (1, .ref (x 0)), (2, .ref (y 0)), (3, .ref (y 1)), (4, .ref (y 2)), (5, .ref (y 3)), (6, .ref (y 4)), (7, .ref (y 5)), (8, .ref (y 6)), (9, .ref (y 7)), (10, .ref (y 8)), (11, .ref (y 9)), (12, .ref (y 10)), (13, .ref (y 11)), (14, .ref (y 12)), (19, .int zv)] (q := 16) (v := nI (tn + 1)) dL_law_517 rfl ((congrArg (fun z => nI (tn) + z) (show Int32.ofInt 1 = nI 1 by decide +kernel)).trans ((nI_add _ _).trans (congrArg nI (by omega)))) (Nat.le_of_ble_eq_true rfl) rfl ?_
  refine g_goto X (tgt := 140) dL_law_520 (by decide) ?_
  refine g_lv [(0, .ref b), (1, .ref (x 0)), (2, .ref (y 0)), (3, .ref (y 1)), (4, .ref (y 2)), (5, .ref (y 3)), (6, .ref (y 4)), (7, .ref (y 5)), (8, .ref (y 6)), (9, .ref (y 7)), (10, .ref (y 8)), (11, .ref (y 9)), (12, .ref (y 10)), (13, .ref (y 11)), (14, .ref (y 12)), (15, .int (nI 1)), (16, .int (nI (tn + 1)))] [2, 3, 4, 5, 6, 7, 8, 9, 10, 11, 12, 13, 14, 15, 16, 1, 0] rfl ?_
  exact kk
