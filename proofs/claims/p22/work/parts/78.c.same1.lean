set_option maxRecDepth 100000 in
set_option maxHeartbeats 4000000 in
theorem n_L_same_292 (l : Launch) (D : va_G) (cI cJ cZ : ClassId) (x : Nat → Nat) (y : Nat → Nat) (C : Cf) (N : Nat → Nat) (S : St) (Qk : Nat → Int64) (Z : St) (jC : Cf) (jN : Nat → Nat) (jS : St) (jQ : Nat → Int64) (jZ : St) (yv : Nat) (mo : Nat) (hm : mo ≤ 600) (hL : LV C N S mo) (hy : yv < 8388608) {p : Program} {e : Env} {s : State} {m : MethodId} {args : Array Value} {below : List Frame} {meth : Method} {c : Code} {A : Nat → Prop} (X : g_Cx p s m args c D A 17 cL_same RL cI cJ cZ) (hr : meth.sig.returnType = (some .boolean)) (hlk : meth.locks = false) {Q : State → Prop} (hQ : MQ below (g_Post D A (g_eq (some (.int (nI 1))) (wX2 x cI cJ cZ C N S Qk Z jC jN jS jQ jZ ++ wL y cI cJ C N S Qk))) args s 0 0 A = Q) (a7 : Int64) (ea7 : a7 = itr (fun i a => a + S 0 i) 0 12) : g_G p l e rm_L_same s m args below meth c D A 17 0 0 Q (wX2 x cI cJ cZ C N S Qk Z jC jN jS jQ jZ ++ wL y cI cJ C N S Qk) [(0, .ref (x 0)), (6, .ref (y 5)), (7, .ref (y 6)), (8, .ref (y 7)), (9, .ref (y 8)), (10, .ref (y 10)), (11, .ref (y 11)), (12, .ref (y 12)), (13, .int (nI 1)), (16, .int (nI 8))] 292 [] := by
  have hC := hL.c
  have hW := hL.wok hm
  have hShr := hL.shr
  have hq := hL.q hm
  have hSm := hL.2.2.1
  have hn0 := hL.2.2.2.1
  have hn1 := hL.2.2.2.2.1
  have hn2 := hL.2.2.2.2.2
  have hZB := hL.1.2.2.2.2.1
  have hB := hL.1.2.2.2.2.2.2.2.2.2.1
  have hq2 := hq.2
  have hC := hL.c
  have hW := hL.wok hm
  have hShr := hL.shr
  have hq := hL.q hm
  have hSm := hL.2.2.1
  have hn0 := hL.2.2.2.1
  have hn1 := hL.2.2.2.2.1
  have hn2 := hL.2.2.2.2.2
  have hZB := hL.1.2.2.2.2.1
  have hB := hL.1.2.2.2.2.2.2.2.2.2.1
  have hq2 := hq.2
  refine g_iconst X (v := nI 0) dL_same_292 (by decide +kernel) ?_
  refine g_istore X [(16, .int (nI 0)), (0, .ref (x 0)), (6, .ref (y 5)), (7, .ref (y 6)), (8, .ref (y 7)), (9, .ref (y 8)), (10, .ref (y 10)), (11, .ref (y 11)), (12, .ref (y 12)), (13, .int (nI 1))] dL_same_293 (Nat.le_of_ble_eq_true rfl) rfl ?_
  have L17 : ∀ (n19 i18 : Nat) , i18 + n19 = (N 0) → g_G p l e rm_L_same s m args below meth c D A 17 0 0 Q (wX2 x cI cJ cZ C N S Qk Z jC jN jS jQ jZ ++ wL y cI cJ C N S Qk) [(0, .ref (x 0)), (6, .ref (y 5)), (7, .ref (y 6)), (8, .ref (y 7)), (9, .ref (y 8)), (11, .ref (y 11)), (12, .ref (y 12)), (13, .int (nI 1)), (16, .int (nI i18))] 295 [] := by
    intro n19
    induction n19 with
    | zero =>
      intro i18  hi20 
      obtain rfl : i18 = (N 0) := by omega
      refine g_iload X 8 dL_same_295 rfl ?_
      refine g_aload X 6 dL_same_297 rfl ?_
      refine g_iconst X (v := nI 1) dL_same_299 (by decide +kernel) ?_
      refine g_iald X 83 rfl (1) rfl (by omega) (Nat.le_of_ble_eq_true rfl) (v := nI (N 0)) rfl dL_same_300 ?_
      refine g_icN_ge X (a := (N 0)) (b := N 0) (tgt := 472) (by omega) (by omega) dL_same_301 (by decide) (fun h21 => ?_) (fun h21 => absurd h21 (by omega))
      refine g_iconst X (v := nI 0) dL_same_472 (by decide +kernel) ?_
      refine g_istore X [(16, .int (nI 0)), (0, .ref (x 0)), (6, .ref (y 5)), (7, .ref (y 6)), (8, .ref (y 7)), (9, .ref (y 8)), (11, .ref (y 11)), (12, .ref (y 12)), (13, .int (nI 1))] dL_same_473 (Nat.le_of_ble_eq_true rfl) rfl ?_
      have L22 : ∀ (n24 i23 : Nat) , i23 + n24 = (N 2) → g_G p l e rm_L_same s m args below meth c D A 17 0 0 Q (wX2 x cI cJ cZ C N S Qk Z jC jN jS jQ jZ ++ wL y cI cJ C N S Qk) [(0, .ref (x 0)), (8, .ref (y 7)), (9, .ref (y 8)), (11, .ref (y 11)), (12, .ref (y 12)), (13, .int (nI 1)), (16, .int (nI i23))] 475 [] := by
        intro n24
        induction n24 with
        | zero =>
          intro i23  hi25 
          obtain rfl : i23 = (N 2) := by omega
          refine g_iload X 6 dL_same_475 rfl ?_
          refine g_aload X 4 dL_same_477 rfl ?_
          refine g_iconst X (v := nI 2) dL_same_479 (by decide +kernel) ?_
          refine g_iald X 83 rfl (2) rfl (by omega) (Nat.le_of_ble_eq_true rfl) (v := nI (N 2)) rfl dL_same_480 ?_
          refine g_icN_ge X (a := (N 2)) (b := N 2) (tgt := 605) (by omega) (by omega) dL_same_481 (by decide) (fun h26 => ?_) (fun h26 => absurd h26 (by omega))
          by_cases hq20 : qN S ≤ 20
          · --
            refine g_iconst X (v := nI 0) dL_same_605 (by decide +kernel) ?_
            refine g_istore X [(16, .int (nI 0)), (0, .ref (x 0)), (8, .ref (y 7)), (9, .ref (y 8)), (11, .ref (y 11)), (12, .ref (y 12)), (13, .int (nI 1))] dL_same_606 (Nat.le_of_ble_eq_true rfl) rfl ?_
            have L27 : ∀ (n29 i28 : Nat) , i28 + n29 = (qN S) → g_G p l e rm_L_same s m args below meth c D A 17 0 0 Q (wX2 x cI cJ cZ C N S Qk Z jC jN jS jQ jZ ++ wL y cI cJ C N S Qk) [(0, .ref (x 0)), (11, .ref (y 11)), (12, .ref (y 12)), (13, .int (nI 1)), (16, .int (nI i28))] 608 [] := by
              intro n29
              induction n29 with
              | zero =>
                intro i28  hi30 
                obtain rfl : i28 = (qN S) := by omega
                refine g_iload X 4 dL_same_608 rfl ?_
                refine g_aload X 2 dL_same_610 rfl ?_
                refine g_iconst X (v := nI 4) dL_same_612 (by decide +kernel) ?_
                refine g_iald X 83 rfl (4) rfl (by omega) (Nat.le_of_ble_eq_true rfl) (v := nI (qN S)) (rfl.trans (q_32 hq.1)) dL_same_613 ?_
                refine g_icN_ge X (a := (qN S)) (b := (qN S)) (tgt := 697) (by omega) (by omega) dL_same_614 (by decide) (fun h31 => ?_) (fun h31 => absurd h31 (by omega))
                refine g_iload X 3 dL_same_697 rfl ?_
                refine g_zret X hr hlk hQ (by decide +kernel) dL_same_699 ?_
                show g_eq _ _ _ _
                try rw [ea7]
                exact ⟨rfl, rfl⟩
              | succ n29 ihL27 =>
                intro i28  hi30 
                have hlti28 : i28 < (qN S) := by omega
                refine g_iload X 4 dL_same_608 rfl ?_
                refine g_aload X 2 dL_same_610 rfl ?_
                refine g_iconst X (v := nI 4) dL_same_612 (by decide +kernel) ?_
                refine g_iald X 83 rfl (4) rfl (by omega) (Nat.le_of_ble_eq_true rfl) (v := nI (qN S)) (rfl.trans (q_32 hq.1)) dL_same_613 ?_
                refine g_icN_ge X (a := i28) (b := (qN S)) (tgt := 697) (by omega) (by omega) dL_same_614 (by decide) (fun h32 => absurd h32 (by omega)) (fun h32 => ?_)
                refine g_iload X 4 dL_same_617 rfl ?_
                refine g_bipush X (v := nI 20) dL_same_619 (by decide +kernel) ?_
                refine g_icN_ge X (a := i28) (b := 20) (tgt := 697) (by omega) (by omega) dL_same_621 (by decide) (fun h33 => absurd h33 (by omega)) (fun h33 => ?_)
                refine g_iload X 3 dL_same_624 rfl ?_
                refine g_iN_eq X (a := 1) (tgt := 697) (by omega) dL_same_626 (by decide) (fun h34 => absurd h34 (by decide)) (fun h34 => ?_)
                refine g_aload_n X 0 dL_same_629 rfl rfl ?_
                refine g_iload X 4 dL_same_630 rfl ?_
                refine g_iconst X (v := nI 0) dL_same_632 (by decide +kernel) ?_
                refine g_callV X (As := [.int (nI i28), .int (nI 0)]) (rest := []) (c_quake l D cI cJ cZ x (x 36) C N S Qk Z i28 0 (kp_lt (by omega) (by omega)) (by decide) hq) kM_L_111 kI_yX6_quake kS_yX6_quake kZ_RX6 kC_yX6_quake hV_X6_quake rfl rfl rfl 0 rfl (ci := 6) rfl ⟨Nat.le_of_ble_eq_true rfl, Nat.le_of_ble_eq_true rfl⟩ ⟨Nat.le_of_ble_eq_true rfl, Nat.le_of_ble_eq_true rfl⟩ (Nat.le_of_ble_eq_true rfl) dL_same_633 rfl (em_I 0 36 36 0) (em_C (by decide) (Nat.le_of_ble_eq_true rfl) rfl) (em_nd (by decide)) (g_kk1 (w2 := wX2 x cI cJ cZ C N S Qk Z jC jN jS jQ jZ ++ wL y cI cJ C N S Qk) (em3 0 36 36 0 (by decide) (Nat.le_of_ble_eq_true rfl) rfl rfl rfl) ?_)
                refine g_aload X 1 dL_same_636 rfl ?_
                refine g_iconst X (v := nI 3) dL_same_638 (by decide +kernel) ?_
                refine g_iload X 4 dL_same_639 rfl ?_
                refine g_imul X (v := nI (3 * i28)) dL_same_641 (pk_mul _ _) ?_
                refine g_iald X 82 rfl (3 * i28) rfl (by omega) (Nat.le_of_ble_eq_true rfl) (v := (Qk (3 * i28)).toInt32) (lrK_r Qk (i := 3 * i28) (by omega)) dL_same_642 ?_
                refine g_icmp_ne X (tgt := 688) dL_same_643 (by decide) (fun h35 => absurd rfl h35) (fun h35 => ?_)
                refine g_aload_n X 0 dL_same_646 rfl rfl ?_
                refine g_iload X 4 dL_same_647 rfl ?_
                refine g_iconst X (v := nI 1) dL_same_649 (by decide +kernel) ?_
                refine g_callV X (As := [.int (nI i28), .int (nI 1)]) (rest := []) (c_quake l D cI cJ cZ x (x 36) C N S Qk Z i28 1 (kp_lt (by omega) (by omega)) (by decide) hq) kM_L_111 kI_yX6_quake kS_yX6_quake kZ_RX6 kC_yX6_quake hV_X6_quake rfl rfl rfl 0 rfl (ci := 6) rfl ⟨Nat.le_of_ble_eq_true rfl, Nat.le_of_ble_eq_true rfl⟩ ⟨Nat.le_of_ble_eq_true rfl, Nat.le_of_ble_eq_true rfl⟩ (Nat.le_of_ble_eq_true rfl) dL_same_650 rfl (em_I 0 36 36 0) (em_C (by decide) (Nat.le_of_ble_eq_true rfl) rfl) (em_nd (by decide)) (g_kk1 (w2 := wX2 x cI cJ cZ C N S Qk Z jC jN jS jQ jZ ++ wL y cI cJ C N S Qk) (em3 0 36 36 0 (by decide) (Nat.le_of_ble_eq_true rfl) rfl rfl rfl) ?_)
                refine g_aload X 1 dL_same_653 rfl ?_
                refine g_iconst X (v := nI 3) dL_same_655 (by decide +kernel) ?_
                refine g_iload X 4 dL_same_656 rfl ?_
                refine g_imul X (v := nI (3 * i28)) dL_same_658 (pk_mul _ _) ?_
                refine g_iconst X (v := nI 1) dL_same_659 (by decide +kernel) ?_
                refine g_iadd X (v := nI (3 * i28 + 1)) dL_same_660 ((nI_add _ _).trans (congrArg nI (by omega))) ?_
                refine g_iald X 82 rfl (3 * i28 + 1) rfl (by omega) (Nat.le_of_ble_eq_true rfl) (v := (Qk (3 * i28 + 1)).toInt32) (lrK_r Qk (i := 3 * i28 + 1) (by omega)) dL_same_661 ?_
                refine g_icmp_ne X (tgt := 688) dL_same_662 (by decide) (fun h36 => absurd rfl h36) (fun h36 => ?_)
                refine g_aload_n X 0 dL_same_665 rfl rfl ?_
                refine g_iload X 4 dL_same_666 rfl ?_
                refine g_iconst X (v := nI 2) dL_same_668 (by decide +kernel) ?_
                refine g_callV X (As := [.int (nI i28), .int (nI 2)]) (rest := []) (c_quake l D cI cJ cZ x (x 36) C N S Qk Z i28 2 (kp_lt (by omega) (by omega)) (by decide) hq) kM_L_111 kI_yX6_quake kS_yX6_quake kZ_RX6 kC_yX6_quake hV_X6_quake rfl rfl rfl 0 rfl (ci := 6) rfl ⟨Nat.le_of_ble_eq_true rfl, Nat.le_of_ble_eq_true rfl⟩ ⟨Nat.le_of_ble_eq_true rfl, Nat.le_of_ble_eq_true rfl⟩ (Nat.le_of_ble_eq_true rfl) dL_same_669 rfl (em_I 0 36 36 0) (em_C (by decide) (Nat.le_of_ble_eq_true rfl) rfl) (em_nd (by decide)) (g_kk1 (w2 := wX2 x cI cJ cZ C N S Qk Z jC jN jS jQ jZ ++ wL y cI cJ C N S Qk) (em3 0 36 36 0 (by decide) (Nat.le_of_ble_eq_true rfl) rfl rfl rfl) ?_)
                refine g_aload X 1 dL_same_672 rfl ?_
                refine g_iconst X (v := nI 3) dL_same_674 (by decide +kernel) ?_
                refine g_iload X 4 dL_same_675 rfl ?_
                refine g_imul X (v := nI (3 * i28)) dL_same_677 (pk_mul _ _) ?_
                refine g_iconst X (v := nI 2) dL_same_678 (by decide +kernel) ?_
                refine g_iadd X (v := nI (3 * i28 + 2)) dL_same_679 ((nI_add _ _).trans (congrArg nI (by omega))) ?_
                refine g_iald X 82 rfl (3 * i28 + 2) rfl (by omega) (Nat.le_of_ble_eq_true rfl) (v := (Qk (3 * i28 + 2)).toInt32) (lrK_r Qk (i := 3 * i28 + 2) (by omega)) dL_same_680 ?_
                refine g_icmp_ne X (tgt := 688) dL_same_681 (by decide) (fun h37 => absurd rfl h37) (fun h37 => ?_)
                refine g_iconst X (v := nI 1) dL_same_684 (by decide +kernel) ?_
                refine g_goto X (tgt := 689) dL_same_685 (by decide) ?_
                refine g_istore X [(13, .int (nI 1)), (0, .ref (x 0)), (11, .ref (y 11)), (12, .ref (y 12)), (16, .int (nI i28))] dL_same_689 (Nat.le_of_ble_eq_true rfl) rfl ?_
                refine g_iinc X [(16, .int (nI (i28 + 1))), (13, .int (nI 1)), (0, .ref (x 0)), (11, .ref (y 11)), (12, .ref (y 12))] (q := 4) (v := nI (i28 + 1)) dL_same_691 rfl ((congrArg (fun z => nI (i28) + z) (show Int32.ofInt 1 = nI 1 by decide +kernel)).trans ((nI_add _ _).trans (congrArg nI (by omega)))) (Nat.le_of_ble_eq_true rfl) rfl ?_
                refine g_goto X (tgt := 608) dL_same_694 (by decide) ?_
                refine g_lv _ [2, 3, 4, 1, 0] rfl ?_
                exact ihL27 (i28 + 1)  (by omega) 
            refine g_lv _ [1, 4, 5, 6, 0] rfl ?_
            exact L27 ((qN S)) 0  (by omega) 
          · --
            refine g_iconst X (v := nI 0) dL_same_605 (by decide +kernel) ?_
            refine g_istore X [(16, .int (nI 0)), (0, .ref (x 0)), (8, .ref (y 7)), (9, .ref (y 8)), (11, .ref (y 11)), (12, .ref (y 12)), (13, .int (nI 1))] dL_same_606 (Nat.le_of_ble_eq_true rfl) rfl ?_
            have L38 : ∀ (n40 i39 : Nat) , i39 + n40 = 20 → g_G p l e rm_L_same s m args below meth c D A 17 0 0 Q (wX2 x cI cJ cZ C N S Qk Z jC jN jS jQ jZ ++ wL y cI cJ C N S Qk) [(0, .ref (x 0)), (11, .ref (y 11)), (12, .ref (y 12)), (13, .int (nI 1)), (16, .int (nI i39))] 608 [] := by
              intro n40
              induction n40 with
              | zero =>
                intro i39  hi41 
                obtain rfl : i39 = 20 := by omega
                refine g_iload X 4 dL_same_608 rfl ?_
                refine g_aload X 2 dL_same_610 rfl ?_
                refine g_iconst X (v := nI 4) dL_same_612 (by decide +kernel) ?_
                refine g_iald X 83 rfl (4) rfl (by omega) (Nat.le_of_ble_eq_true rfl) (v := nI (qN S)) (rfl.trans (q_32 hq.1)) dL_same_613 ?_
                refine g_icN_ge X (a := 20) (b := (qN S)) (tgt := 697) (by omega) (by omega) dL_same_614 (by decide) (fun h42 => absurd h42 (by omega)) (fun h42 => ?_)
                refine g_iload X 4 dL_same_617 rfl ?_
                refine g_bipush X (v := nI 20) dL_same_619 (by decide +kernel) ?_
                refine g_icN_ge X (a := 20) (b := 20) (tgt := 697) (by omega) (by omega) dL_same_621 (by decide) (fun h43 => ?_) (fun h43 => absurd h43 (by omega))
                refine g_iload X 3 dL_same_697 rfl ?_
                refine g_zret X hr hlk hQ (by decide +kernel) dL_same_699 ?_
                show g_eq _ _ _ _
                try rw [ea7]
                exact ⟨rfl, rfl⟩
              | succ n40 ihL38 =>
                intro i39  hi41 
                have hlti39 : i39 < 20 := by omega
                refine g_iload X 4 dL_same_608 rfl ?_
                refine g_aload X 2 dL_same_610 rfl ?_
                refine g_iconst X (v := nI 4) dL_same_612 (by decide +kernel) ?_
                refine g_iald X 83 rfl (4) rfl (by omega) (Nat.le_of_ble_eq_true rfl) (v := nI (qN S)) (rfl.trans (q_32 hq.1)) dL_same_613 ?_
                refine g_icN_ge X (a := i39) (b := (qN S)) (tgt := 697) (by omega) (by omega) dL_same_614 (by decide) (fun h44 => absurd h44 (by omega)) (fun h44 => ?_)
                refine g_iload X 4 dL_same_617 rfl ?_
                refine g_bipush X (v := nI 20) dL_same_619 (by decide +kernel) ?_
                refine g_icN_ge X (a := i39) (b := 20) (tgt := 697) (by omega) (by omega) dL_same_621 (by decide) (fun h45 => absurd h45 (by omega)) (fun h45 => ?_)
                refine g_iload X 3 dL_same_624 rfl ?_
                refine g_iN_eq X (a := 1) (tgt := 697) (by omega) dL_same_626 (by decide) (fun h46 => absurd h46 (by decide)) (fun h46 => ?_)
                refine g_aload_n X 0 dL_same_629 rfl rfl ?_
                refine g_iload X 4 dL_same_630 rfl ?_
                refine g_iconst X (v := nI 0) dL_same_632 (by decide +kernel) ?_
                refine g_callV X (As := [.int (nI i39), .int (nI 0)]) (rest := []) (c_quake l D cI cJ cZ x (x 36) C N S Qk Z i39 0 (kp_lt (by omega) (by omega)) (by decide) hq) kM_L_111 kI_yX6_quake kS_yX6_quake kZ_RX6 kC_yX6_quake hV_X6_quake rfl rfl rfl 0 rfl (ci := 6) rfl ⟨Nat.le_of_ble_eq_true rfl, Nat.le_of_ble_eq_true rfl⟩ ⟨Nat.le_of_ble_eq_true rfl, Nat.le_of_ble_eq_true rfl⟩ (Nat.le_of_ble_eq_true rfl) dL_same_633 rfl (em_I 0 36 36 0) (em_C (by decide) (Nat.le_of_ble_eq_true rfl) rfl) (em_nd (by decide)) (g_kk1 (w2 := wX2 x cI cJ cZ C N S Qk Z jC jN jS jQ jZ ++ wL y cI cJ C N S Qk) (em3 0 36 36 0 (by decide) (Nat.le_of_ble_eq_true rfl) rfl rfl rfl) ?_)
                refine g_aload X 1 dL_same_636 rfl ?_
                refine g_iconst X (v := nI 3) dL_same_638 (by decide +kernel) ?_
                refine g_iload X 4 dL_same_639 rfl ?_
                refine g_imul X (v := nI (3 * i39)) dL_same_641 (pk_mul _ _) ?_
                refine g_iald X 82 rfl (3 * i39) rfl (by omega) (Nat.le_of_ble_eq_true rfl) (v := (Qk (3 * i39)).toInt32) (lrK_r Qk (i := 3 * i39) (by omega)) dL_same_642 ?_
                refine g_icmp_ne X (tgt := 688) dL_same_643 (by decide) (fun h47 => absurd rfl h47) (fun h47 => ?_)
                refine g_aload_n X 0 dL_same_646 rfl rfl ?_
                refine g_iload X 4 dL_same_647 rfl ?_
                refine g_iconst X (v := nI 1) dL_same_649 (by decide +kernel) ?_
                refine g_callV X (As := [.int (nI i39), .int (nI 1)]) (rest := []) (c_quake l D cI cJ cZ x (x 36) C N S Qk Z i39 1 (kp_lt (by omega) (by omega)) (by decide) hq) kM_L_111 kI_yX6_quake kS_yX6_quake kZ_RX6 kC_yX6_quake hV_X6_quake rfl rfl rfl 0 rfl (ci := 6) rfl ⟨Nat.le_of_ble_eq_true rfl, Nat.le_of_ble_eq_true rfl⟩ ⟨Nat.le_of_ble_eq_true rfl, Nat.le_of_ble_eq_true rfl⟩ (Nat.le_of_ble_eq_true rfl) dL_same_650 rfl (em_I 0 36 36 0) (em_C (by decide) (Nat.le_of_ble_eq_true rfl) rfl) (em_nd (by decide)) (g_kk1 (w2 := wX2 x cI cJ cZ C N S Qk Z jC jN jS jQ jZ ++ wL y cI cJ C N S Qk) (em3 0 36 36 0 (by decide) (Nat.le_of_ble_eq_true rfl) rfl rfl rfl) ?_)
                refine g_aload X 1 dL_same_653 rfl ?_
                refine g_iconst X (v := nI 3) dL_same_655 (by decide +kernel) ?_
                refine g_iload X 4 dL_same_656 rfl ?_
                refine g_imul X (v := nI (3 * i39)) dL_same_658 (pk_mul _ _) ?_
                refine g_iconst X (v := nI 1) dL_same_659 (by decide +kernel) ?_
                refine g_iadd X (v := nI (3 * i39 + 1)) dL_same_660 ((nI_add _ _).trans (congrArg nI (by omega))) ?_
                refine g_iald X 82 rfl (3 * i39 + 1) rfl (by omega) (Nat.le_of_ble_eq_true rfl) (v := (Qk (3 * i39 + 1)).toInt32) (lrK_r Qk (i := 3 * i39 + 1) (by omega)) dL_same_661 ?_
                refine g_icmp_ne X (tgt := 688) dL_same_662 (by decide) (fun h48 => absurd rfl h48) (fun h48 => ?_)
                refine g_aload_n X 0 dL_same_665 rfl rfl ?_
                refine g_iload X 4 dL_same_666 rfl ?_
                refine g_iconst X (v := nI 2) dL_same_668 (by decide +kernel) ?_
                refine g_callV X (As := [.int (nI i39), .int (nI 2)]) (rest := []) (c_quake l D cI cJ cZ x (x 36) C N S Qk Z i39 2 (kp_lt (by omega) (by omega)) (by decide) hq) kM_L_111 kI_yX6_quake kS_yX6_quake kZ_RX6 kC_yX6_quake hV_X6_quake rfl rfl rfl 0 rfl (ci := 6) rfl ⟨Nat.le_of_ble_eq_true rfl, Nat.le_of_ble_eq_true rfl⟩ ⟨Nat.le_of_ble_eq_true rfl, Nat.le_of_ble_eq_true rfl⟩ (Nat.le_of_ble_eq_true rfl) dL_same_669 rfl (em_I 0 36 36 0) (em_C (by decide) (Nat.le_of_ble_eq_true rfl) rfl) (em_nd (by decide)) (g_kk1 (w2 := wX2 x cI cJ cZ C N S Qk Z jC jN jS jQ jZ ++ wL y cI cJ C N S Qk) (em3 0 36 36 0 (by decide) (Nat.le_of_ble_eq_true rfl) rfl rfl rfl) ?_)
                refine g_aload X 1 dL_same_672 rfl ?_
                refine g_iconst X (v := nI 3) dL_same_674 (by decide +kernel) ?_
                refine g_iload X 4 dL_same_675 rfl ?_
                refine g_imul X (v := nI (3 * i39)) dL_same_677 (pk_mul _ _) ?_
                refine g_iconst X (v := nI 2) dL_same_678 (by decide +kernel) ?_
                refine g_iadd X (v := nI (3 * i39 + 2)) dL_same_679 ((nI_add _ _).trans (congrArg nI (by omega))) ?_
                refine g_iald X 82 rfl (3 * i39 + 2) rfl (by omega) (Nat.le_of_ble_eq_true rfl) (v := (Qk (3 * i39 + 2)).toInt32) (lrK_r Qk (i := 3 * i39 + 2) (by omega)) dL_same_680 ?_
                refine g_icmp_ne X (tgt := 688) dL_same_681 (by decide) (fun h49 => absurd rfl h49) (fun h49 => ?_)
                refine g_iconst X (v := nI 1) dL_same_684 (by decide +kernel) ?_
                refine g_goto X (tgt := 689) dL_same_685 (by decide) ?_
                refine g_istore X [(13, .int (nI 1)), (0, .ref (x 0)), (11, .ref (y 11)), (12, .ref (y 12)), (16, .int (nI i39))] dL_same_689 (Nat.le_of_ble_eq_true rfl) rfl ?_
                refine g_iinc X [(16, .int (nI (i39 + 1))), (13, .int (nI 1)), (0, .ref (x 0)), (11, .ref (y 11)), (12, .ref (y 12))] (q := 4) (v := nI (i39 + 1)) dL_same_691 rfl ((congrArg (fun z => nI (i39) + z) (show Int32.ofInt 1 = nI 1 by decide +kernel)).trans ((nI_add _ _).trans (congrArg nI (by omega)))) (Nat.le_of_ble_eq_true rfl) rfl ?_
                refine g_goto X (tgt := 608) dL_same_694 (by decide) ?_
                refine g_lv _ [2, 3, 4, 1, 0] rfl ?_
                exact ihL38 (i39 + 1)  (by omega) 
            refine g_lv _ [1, 4, 5, 6, 0] rfl ?_
            exact L38 (20) 0  (by omega) 
        | succ n24 ihL22 =>
          intro i23  hi25 
          have hlti23 : i23 < (N 2) := by omega
          refine g_iload X 6 dL_same_475 rfl ?_
          refine g_aload X 4 dL_same_477 rfl ?_
          refine g_iconst X (v := nI 2) dL_same_479 (by decide +kernel) ?_
          refine g_iald X 83 rfl (2) rfl (by omega) (Nat.le_of_ble_eq_true rfl) (v := nI (N 2)) rfl dL_same_480 ?_
          refine g_icN_ge X (a := i23) (b := N 2) (tgt := 605) (by omega) (by omega) dL_same_481 (by decide) (fun h50 => absurd h50 (by omega)) (fun h50 => ?_)
          refine g_iload X 5 dL_same_484 rfl ?_
          refine g_iN_eq X (a := 1) (tgt := 605) (by omega) dL_same_486 (by decide) (fun h51 => absurd h51 (by decide)) (fun h51 => ?_)
          refine g_aload_n X 0 dL_same_489 rfl rfl ?_
          refine g_iload X 6 dL_same_490 rfl ?_
          refine g_iconst X (v := nI 0) dL_same_492 (by decide +kernel) ?_
          refine g_callV X (As := [.int (nI i23), .int (nI 0)]) (rest := []) (c_ofSpring l D cI cJ cZ x (x 36) C N S Qk Z i23 0 (by omega) (by decide) hC) kM_L_104 kI_yX6_ofSpring kS_yX6_ofSpring kZ_RX6 kC_yX6_ofSpring hV_X6_ofSpring rfl rfl rfl 0 rfl (ci := 6) rfl ⟨Nat.le_of_ble_eq_true rfl, Nat.le_of_ble_eq_true rfl⟩ ⟨Nat.le_of_ble_eq_true rfl, Nat.le_of_ble_eq_true rfl⟩ (Nat.le_of_ble_eq_true rfl) dL_same_493 rfl (em_I 0 36 36 0) (em_C (by decide) (Nat.le_of_ble_eq_true rfl) rfl) (em_nd (by decide)) (g_kk1 (w2 := wX2 x cI cJ cZ C N S Qk Z jC jN jS jQ jZ ++ wL y cI cJ C N S Qk) (em3 0 36 36 0 (by decide) (Nat.le_of_ble_eq_true rfl) rfl rfl rfl) ?_)
          refine g_aload X 1 dL_same_496 rfl ?_
          refine g_iconst X (v := nI 5) dL_same_498 (by decide +kernel) ?_
          refine g_iload X 6 dL_same_499 rfl ?_
          refine g_imul X (v := nI (5 * i23)) dL_same_501 (pk_mul _ _) ?_
          refine g_iald X 78 rfl (5 * i23) rfl (by omega) (Nat.le_of_ble_eq_true rfl) (v := C 7 i23) (lrG_0 C S i23) dL_same_502 ?_
          refine g_i2l X (v := (C 7 i23).toInt64) dL_same_503 rfl ?_
          refine g_lj_ne X (tgt := 596) (pc1 := 505) dL_same_504 rfl dL_same_505 (by decide) (fun h52 => absurd rfl h52) (fun h52 => ?_)
          refine g_aload_n X 0 dL_same_508 rfl rfl ?_
          refine g_iload X 6 dL_same_509 rfl ?_
          refine g_iconst X (v := nI 1) dL_same_511 (by decide +kernel) ?_
          refine g_callV X (As := [.int (nI i23), .int (nI 1)]) (rest := []) (c_ofSpring l D cI cJ cZ x (x 36) C N S Qk Z i23 1 (by omega) (by decide) hC) kM_L_104 kI_yX6_ofSpring kS_yX6_ofSpring kZ_RX6 kC_yX6_ofSpring hV_X6_ofSpring rfl rfl rfl 0 rfl (ci := 6) rfl ⟨Nat.le_of_ble_eq_true rfl, Nat.le_of_ble_eq_true rfl⟩ ⟨Nat.le_of_ble_eq_true rfl, Nat.le_of_ble_eq_true rfl⟩ (Nat.le_of_ble_eq_true rfl) dL_same_512 rfl (em_I 0 36 36 0) (em_C (by decide) (Nat.le_of_ble_eq_true rfl) rfl) (em_nd (by decide)) (g_kk1 (w2 := wX2 x cI cJ cZ C N S Qk Z jC jN jS jQ jZ ++ wL y cI cJ C N S Qk) (em3 0 36 36 0 (by decide) (Nat.le_of_ble_eq_true rfl) rfl rfl rfl) ?_)
          refine g_aload X 1 dL_same_515 rfl ?_
          refine g_iconst X (v := nI 5) dL_same_517 (by decide +kernel) ?_
          refine g_iload X 6 dL_same_518 rfl ?_
          refine g_imul X (v := nI (5 * i23)) dL_same_520 (pk_mul _ _) ?_
          refine g_iconst X (v := nI 3) dL_same_521 (by decide +kernel) ?_
          refine g_iadd X (v := nI (5 * i23 + 3)) dL_same_522 ((nI_add _ _).trans (congrArg nI (by omega))) ?_
          refine g_iald X 78 rfl (5 * i23 + 3) rfl (by omega) (Nat.le_of_ble_eq_true rfl) (v := (S 9 i23).toInt32) (lrG_3 C S i23) dL_same_523 ?_
          refine g_i2l X (v := ((S 9 i23).toInt32).toInt64) dL_same_524 rfl ?_
          refine g_lj_ne X (tgt := 596) (pc1 := 526) dL_same_525 rfl dL_same_526 (by decide) (fun h53 => absurd (show tellS C S i23 1 = _ from (l32 (x := S 9 i23) (by have := hSm.2 i23 (by omega); omega)).symm) h53) (fun h53 => ?_)
          refine g_aload_n X 0 dL_same_529 rfl rfl ?_
          refine g_iload X 6 dL_same_530 rfl ?_
          refine g_iconst X (v := nI 2) dL_same_532 (by decide +kernel) ?_
          refine g_callV X (As := [.int (nI i23), .int (nI 2)]) (rest := []) (c_ofSpring l D cI cJ cZ x (x 36) C N S Qk Z i23 2 (by omega) (by decide) hC) kM_L_104 kI_yX6_ofSpring kS_yX6_ofSpring kZ_RX6 kC_yX6_ofSpring hV_X6_ofSpring rfl rfl rfl 0 rfl (ci := 6) rfl ⟨Nat.le_of_ble_eq_true rfl, Nat.le_of_ble_eq_true rfl⟩ ⟨Nat.le_of_ble_eq_true rfl, Nat.le_of_ble_eq_true rfl⟩ (Nat.le_of_ble_eq_true rfl) dL_same_533 rfl (em_I 0 36 36 0) (em_C (by decide) (Nat.le_of_ble_eq_true rfl) rfl) (em_nd (by decide)) (g_kk1 (w2 := wX2 x cI cJ cZ C N S Qk Z jC jN jS jQ jZ ++ wL y cI cJ C N S Qk) (em3 0 36 36 0 (by decide) (Nat.le_of_ble_eq_true rfl) rfl rfl rfl) ?_)
          refine g_aload X 1 dL_same_536 rfl ?_
          refine g_iconst X (v := nI 5) dL_same_538 (by decide +kernel) ?_
          refine g_iload X 6 dL_same_539 rfl ?_
          refine g_imul X (v := nI (5 * i23)) dL_same_541 (pk_mul _ _) ?_
          refine g_iconst X (v := nI 2) dL_same_542 (by decide +kernel) ?_
          refine g_iadd X (v := nI (5 * i23 + 2)) dL_same_543 ((nI_add _ _).trans (congrArg nI (by omega))) ?_
          refine g_iald X 78 rfl (5 * i23 + 2) rfl (by omega) (Nat.le_of_ble_eq_true rfl) (v := C 9 i23) (lrG_2 C S i23) dL_same_544 ?_
          refine g_i2l X (v := (C 9 i23).toInt64) dL_same_545 rfl ?_
          refine g_lj_ne X (tgt := 596) (pc1 := 547) dL_same_546 rfl dL_same_547 (by decide) (fun h54 => absurd rfl h54) (fun h54 => ?_)
          refine g_aload_n X 0 dL_same_550 rfl rfl ?_
          refine g_iload X 6 dL_same_551 rfl ?_
          refine g_iconst X (v := nI 3) dL_same_553 (by decide +kernel) ?_
          refine g_callV X (As := [.int (nI i23), .int (nI 3)]) (rest := []) (c_ofSpring l D cI cJ cZ x (x 36) C N S Qk Z i23 3 (by omega) (by decide) hC) kM_L_104 kI_yX6_ofSpring kS_yX6_ofSpring kZ_RX6 kC_yX6_ofSpring hV_X6_ofSpring rfl rfl rfl 0 rfl (ci := 6) rfl ⟨Nat.le_of_ble_eq_true rfl, Nat.le_of_ble_eq_true rfl⟩ ⟨Nat.le_of_ble_eq_true rfl, Nat.le_of_ble_eq_true rfl⟩ (Nat.le_of_ble_eq_true rfl) dL_same_554 rfl (em_I 0 36 36 0) (em_C (by decide) (Nat.le_of_ble_eq_true rfl) rfl) (em_nd (by decide)) (g_kk1 (w2 := wX2 x cI cJ cZ C N S Qk Z jC jN jS jQ jZ ++ wL y cI cJ C N S Qk) (em3 0 36 36 0 (by decide) (Nat.le_of_ble_eq_true rfl) rfl rfl rfl) ?_)
          refine g_aload X 1 dL_same_557 rfl ?_
          refine g_iconst X (v := nI 5) dL_same_559 (by decide +kernel) ?_
          refine g_iload X 6 dL_same_560 rfl ?_
          refine g_imul X (v := nI (5 * i23)) dL_same_562 (pk_mul _ _) ?_
          refine g_iconst X (v := nI 4) dL_same_563 (by decide +kernel) ?_
          refine g_iadd X (v := nI (5 * i23 + 4)) dL_same_564 ((nI_add _ _).trans (congrArg nI (by omega))) ?_
          refine g_iald X 78 rfl (5 * i23 + 4) rfl (by omega) (Nat.le_of_ble_eq_true rfl) (v := (S 10 i23).toInt32) (lrG_4 C S i23) dL_same_565 ?_
          refine g_i2l X (v := ((S 10 i23).toInt32).toInt64) dL_same_566 rfl ?_
          refine g_lj_ne X (tgt := 596) (pc1 := 568) dL_same_567 rfl dL_same_568 (by decide) (fun h55 => absurd rfl h55) (fun h55 => ?_)
          refine g_aload_n X 0 dL_same_571 rfl rfl ?_
          refine g_iload X 6 dL_same_572 rfl ?_
          refine g_iconst X (v := nI 4) dL_same_574 (by decide +kernel) ?_
          refine g_callV X (As := [.int (nI i23), .int (nI 4)]) (rest := []) (c_ofSpring l D cI cJ cZ x (x 36) C N S Qk Z i23 4 (by omega) (by decide) hC) kM_L_104 kI_yX6_ofSpring kS_yX6_ofSpring kZ_RX6 kC_yX6_ofSpring hV_X6_ofSpring rfl rfl rfl 0 rfl (ci := 6) rfl ⟨Nat.le_of_ble_eq_true rfl, Nat.le_of_ble_eq_true rfl⟩ ⟨Nat.le_of_ble_eq_true rfl, Nat.le_of_ble_eq_true rfl⟩ (Nat.le_of_ble_eq_true rfl) dL_same_575 rfl (em_I 0 36 36 0) (em_C (by decide) (Nat.le_of_ble_eq_true rfl) rfl) (em_nd (by decide)) (g_kk1 (w2 := wX2 x cI cJ cZ C N S Qk Z jC jN jS jQ jZ ++ wL y cI cJ C N S Qk) (em3 0 36 36 0 (by decide) (Nat.le_of_ble_eq_true rfl) rfl rfl rfl) ?_)
          refine g_iload X 6 dL_same_578 rfl ?_
          refine g_aload X 2 dL_same_580 rfl ?_
          refine g_aload X 4 dL_same_582 rfl ?_
          refine g_callS X (As := [.int (nI i23), .ref (y 8), .ref (y 12)]) (rest := [.long (tellS C S i23 4)]) (m_L_blame l D cI cJ cZ y C N S Qk i23 (by omega) hn0) kM_L_107 kT_yL_blame kZ_RL kC_yL_blame hV_L_blame rfl rfl rfl ⟨Nat.le_of_ble_eq_true rfl, Nat.le_of_ble_eq_true rfl⟩ ⟨Nat.le_of_ble_eq_true rfl, Nat.le_of_ble_eq_true rfl⟩ (Nat.le_of_ble_eq_true rfl) dL_same_584 rfl (em_I 71 13 84 0) (em_C (by decide) (Nat.le_of_ble_eq_true rfl) rfl) (em_nd (by decide)) (g_kk1 (w2 := wX2 x cI cJ cZ C N S Qk Z jC jN jS jQ jZ ++ wL y cI cJ C N S Qk) (em3 71 13 84 0 (by decide) (Nat.le_of_ble_eq_true rfl) rfl rfl rfl) ?_)
          refine g_i2l X (v := (blI S i23 (N 0)).toInt64) dL_same_587 rfl ?_
          refine g_lj_ne X (tgt := 596) (pc1 := 589) dL_same_588 rfl dL_same_589 (by decide) (fun h56 => absurd (show tellS C S i23 4 = _ from congrArg Int32.toInt64 (blame_eq hn0 (fun w h1 h2 => hZB.2.2.2.2.2 i23 w h2 (by omega) (Or.inr h1)))) h56) (fun h56 => ?_)
          refine g_iconst X (v := nI 1) dL_same_592 (by decide +kernel) ?_
          refine g_goto X (tgt := 597) dL_same_593 (by decide) ?_
          refine g_istore X [(13, .int (nI 1)), (0, .ref (x 0)), (8, .ref (y 7)), (9, .ref (y 8)), (11, .ref (y 11)), (12, .ref (y 12)), (16, .int (nI i23))] dL_same_597 (Nat.le_of_ble_eq_true rfl) rfl ?_
          refine g_iinc X [(16, .int (nI (i23 + 1))), (13, .int (nI 1)), (0, .ref (x 0)), (8, .ref (y 7)), (9, .ref (y 8)), (11, .ref (y 11)), (12, .ref (y 12))] (q := 6) (v := nI (i23 + 1)) dL_same_599 rfl ((congrArg (fun z => nI (i23) + z) (show Int32.ofInt 1 = nI 1 by decide +kernel)).trans ((nI_add _ _).trans (congrArg nI (by omega)))) (Nat.le_of_ble_eq_true rfl) rfl ?_
          refine g_goto X (tgt := 475) dL_same_602 (by decide) ?_
          refine g_lv _ [2, 3, 4, 5, 6, 1, 0] rfl ?_
          exact ihL22 (i23 + 1)  (by omega) 
      refine g_lv _ [1, 4, 5, 6, 7, 8, 0] rfl ?_
      exact L22 ((N 2)) 0  (by omega) 
    | succ n19 ihL17 =>
      intro i18  hi20 
      have hlti18 : i18 < (N 0) := by omega
      refine g_iload X 8 dL_same_295 rfl ?_
      refine g_aload X 6 dL_same_297 rfl ?_
      refine g_iconst X (v := nI 1) dL_same_299 (by decide +kernel) ?_
      refine g_iald X 83 rfl (1) rfl (by omega) (Nat.le_of_ble_eq_true rfl) (v := nI (N 0)) rfl dL_same_300 ?_
      refine g_icN_ge X (a := i18) (b := N 0) (tgt := 472) (by omega) (by omega) dL_same_301 (by decide) (fun h57 => absurd h57 (by omega)) (fun h57 => ?_)
      refine g_iload X 7 dL_same_304 rfl ?_
      refine g_iN_eq X (a := 1) (tgt := 472) (by omega) dL_same_306 (by decide) (fun h58 => absurd h58 (by decide)) (fun h58 => ?_)
      refine g_aload_n X 0 dL_same_309 rfl rfl ?_
      refine g_iload X 8 dL_same_310 rfl ?_
      refine g_iconst X (v := nI 0) dL_same_312 (by decide +kernel) ?_
      refine g_callV X (As := [.int (nI i18), .int (nI 0)]) (rest := []) (c_ofWell l D cI cJ cZ x (x 36) C N S Qk Z i18 0 (by omega) (by decide) hC) kM_L_101 kI_yX6_ofWell kS_yX6_ofWell kZ_RX6 kC_yX6_ofWell hV_X6_ofWell rfl rfl rfl 0 rfl (ci := 6) rfl ⟨Nat.le_of_ble_eq_true rfl, Nat.le_of_ble_eq_true rfl⟩ ⟨Nat.le_of_ble_eq_true rfl, Nat.le_of_ble_eq_true rfl⟩ (Nat.le_of_ble_eq_true rfl) dL_same_313 rfl (em_I 0 36 36 0) (em_C (by decide) (Nat.le_of_ble_eq_true rfl) rfl) (em_nd (by decide)) (g_kk1 (w2 := wX2 x cI cJ cZ C N S Qk Z jC jN jS jQ jZ ++ wL y cI cJ C N S Qk) (em3 0 36 36 0 (by decide) (Nat.le_of_ble_eq_true rfl) rfl rfl rfl) ?_)
      refine g_aload X 1 dL_same_316 rfl ?_
      refine g_bipush X (v := nI 7) dL_same_318 (by decide +kernel) ?_
      refine g_iload X 8 dL_same_320 rfl ?_
      refine g_imul X (v := nI (7 * i18)) dL_same_322 (pk_mul _ _) ?_
      refine g_iald X 76 rfl (7 * i18) rfl (by omega) (Nat.le_of_ble_eq_true rfl) (v := C 2 i18) (lrE_0 C N S i18) dL_same_323 ?_
      refine g_i2l X (v := (C 2 i18).toInt64) dL_same_324 rfl ?_
      refine g_lj_ne X (tgt := 463) (pc1 := 326) dL_same_325 rfl dL_same_326 (by decide) (fun h59 => absurd rfl h59) (fun h59 => ?_)
      refine g_aload_n X 0 dL_same_329 rfl rfl ?_
      refine g_iload X 8 dL_same_330 rfl ?_
      refine g_iconst X (v := nI 1) dL_same_332 (by decide +kernel) ?_
      refine g_callV X (As := [.int (nI i18), .int (nI 1)]) (rest := []) (c_ofWell l D cI cJ cZ x (x 36) C N S Qk Z i18 1 (by omega) (by decide) hC) kM_L_101 kI_yX6_ofWell kS_yX6_ofWell kZ_RX6 kC_yX6_ofWell hV_X6_ofWell rfl rfl rfl 0 rfl (ci := 6) rfl ⟨Nat.le_of_ble_eq_true rfl, Nat.le_of_ble_eq_true rfl⟩ ⟨Nat.le_of_ble_eq_true rfl, Nat.le_of_ble_eq_true rfl⟩ (Nat.le_of_ble_eq_true rfl) dL_same_333 rfl (em_I 0 36 36 0) (em_C (by decide) (Nat.le_of_ble_eq_true rfl) rfl) (em_nd (by decide)) (g_kk1 (w2 := wX2 x cI cJ cZ C N S Qk Z jC jN jS jQ jZ ++ wL y cI cJ C N S Qk) (em3 0 36 36 0 (by decide) (Nat.le_of_ble_eq_true rfl) rfl rfl rfl) ?_)
      refine g_aload X 1 dL_same_336 rfl ?_
      refine g_bipush X (v := nI 7) dL_same_338 (by decide +kernel) ?_
      refine g_iload X 8 dL_same_340 rfl ?_
      refine g_imul X (v := nI (7 * i18)) dL_same_342 (pk_mul _ _) ?_
      refine g_iconst X (v := nI 2) dL_same_343 (by decide +kernel) ?_
      refine g_iadd X (v := nI (7 * i18 + 2)) dL_same_344 ((nI_add _ _).trans (congrArg nI (by omega))) ?_
      refine g_iald X 76 rfl (7 * i18 + 2) rfl (by omega) (Nat.le_of_ble_eq_true rfl) (v := C 4 i18) (lrE_2 C N S i18) dL_same_345 ?_
      refine g_i2l X (v := (C 4 i18).toInt64) dL_same_346 rfl ?_
      refine g_lj_ne X (tgt := 463) (pc1 := 348) dL_same_347 rfl dL_same_348 (by decide) (fun h60 => absurd rfl h60) (fun h60 => ?_)
      refine g_aload_n X 0 dL_same_351 rfl rfl ?_
      refine g_iload X 8 dL_same_352 rfl ?_
      refine g_iconst X (v := nI 2) dL_same_354 (by decide +kernel) ?_
      refine g_callV X (As := [.int (nI i18), .int (nI 2)]) (rest := []) (c_ofWell l D cI cJ cZ x (x 36) C N S Qk Z i18 2 (by omega) (by decide) hC) kM_L_101 kI_yX6_ofWell kS_yX6_ofWell kZ_RX6 kC_yX6_ofWell hV_X6_ofWell rfl rfl rfl 0 rfl (ci := 6) rfl ⟨Nat.le_of_ble_eq_true rfl, Nat.le_of_ble_eq_true rfl⟩ ⟨Nat.le_of_ble_eq_true rfl, Nat.le_of_ble_eq_true rfl⟩ (Nat.le_of_ble_eq_true rfl) dL_same_355 rfl (em_I 0 36 36 0) (em_C (by decide) (Nat.le_of_ble_eq_true rfl) rfl) (em_nd (by decide)) (g_kk1 (w2 := wX2 x cI cJ cZ C N S Qk Z jC jN jS jQ jZ ++ wL y cI cJ C N S Qk) (em3 0 36 36 0 (by decide) (Nat.le_of_ble_eq_true rfl) rfl rfl rfl) ?_)
      refine g_aload X 1 dL_same_358 rfl ?_
      refine g_bipush X (v := nI 7) dL_same_360 (by decide +kernel) ?_
      refine g_iload X 8 dL_same_362 rfl ?_
      refine g_imul X (v := nI (7 * i18)) dL_same_364 (pk_mul _ _) ?_
      refine g_iconst X (v := nI 3) dL_same_365 (by decide +kernel) ?_
      refine g_iadd X (v := nI (7 * i18 + 3)) dL_same_366 ((nI_add _ _).trans (congrArg nI (by omega))) ?_
      refine g_iald X 76 rfl (7 * i18 + 3) rfl (by omega) (Nat.le_of_ble_eq_true rfl) (v := (S 4 i18).toInt32) (lrE_3 C N S i18) dL_same_367 ?_
      refine g_i2l X (v := ((S 4 i18).toInt32).toInt64) dL_same_368 rfl ?_
      refine g_lj_ne X (tgt := 463) (pc1 := 370) dL_same_369 rfl dL_same_370 (by decide) (fun h61 => absurd rfl h61) (fun h61 => ?_)
      refine g_aload_n X 0 dL_same_373 rfl rfl ?_
      refine g_iload X 8 dL_same_374 rfl ?_
      refine g_iconst X (v := nI 3) dL_same_376 (by decide +kernel) ?_
      refine g_callV X (As := [.int (nI i18), .int (nI 3)]) (rest := []) (c_ofWell l D cI cJ cZ x (x 36) C N S Qk Z i18 3 (by omega) (by decide) hC) kM_L_101 kI_yX6_ofWell kS_yX6_ofWell kZ_RX6 kC_yX6_ofWell hV_X6_ofWell rfl rfl rfl 0 rfl (ci := 6) rfl ⟨Nat.le_of_ble_eq_true rfl, Nat.le_of_ble_eq_true rfl⟩ ⟨Nat.le_of_ble_eq_true rfl, Nat.le_of_ble_eq_true rfl⟩ (Nat.le_of_ble_eq_true rfl) dL_same_377 rfl (em_I 0 36 36 0) (em_C (by decide) (Nat.le_of_ble_eq_true rfl) rfl) (em_nd (by decide)) (g_kk1 (w2 := wX2 x cI cJ cZ C N S Qk Z jC jN jS jQ jZ ++ wL y cI cJ C N S Qk) (em3 0 36 36 0 (by decide) (Nat.le_of_ble_eq_true rfl) rfl rfl rfl) ?_)
      refine g_aload X 1 dL_same_380 rfl ?_
      refine g_bipush X (v := nI 7) dL_same_382 (by decide +kernel) ?_
      refine g_iload X 8 dL_same_384 rfl ?_
      refine g_imul X (v := nI (7 * i18)) dL_same_386 (pk_mul _ _) ?_
      refine g_iconst X (v := nI 4) dL_same_387 (by decide +kernel) ?_
      refine g_iadd X (v := nI (7 * i18 + 4)) dL_same_388 ((nI_add _ _).trans (congrArg nI (by omega))) ?_
      refine g_iald X 76 rfl (7 * i18 + 4) rfl (by omega) (Nat.le_of_ble_eq_true rfl) (v := (S 5 i18).toInt32) (lrE_4 C N S i18) dL_same_389 ?_
      refine g_i2l X (v := ((S 5 i18).toInt32).toInt64) dL_same_390 rfl ?_
      refine g_lj_ne X (tgt := 463) (pc1 := 392) dL_same_391 rfl dL_same_392 (by decide) (fun h62 => absurd (show tellW C S i18 3 = _ from (l32 (x := S 5 i18) (by have := hSm.1 i18 (by omega); omega)).symm) h62) (fun h62 => ?_)
      refine g_aload_n X 0 dL_same_395 rfl rfl ?_
      refine g_iload X 8 dL_same_396 rfl ?_
      refine g_iconst X (v := nI 4) dL_same_398 (by decide +kernel) ?_
      refine g_callV X (As := [.int (nI i18), .int (nI 4)]) (rest := []) (c_ofWell l D cI cJ cZ x (x 36) C N S Qk Z i18 4 (by omega) (by decide) hC) kM_L_101 kI_yX6_ofWell kS_yX6_ofWell kZ_RX6 kC_yX6_ofWell hV_X6_ofWell rfl rfl rfl 0 rfl (ci := 6) rfl ⟨Nat.le_of_ble_eq_true rfl, Nat.le_of_ble_eq_true rfl⟩ ⟨Nat.le_of_ble_eq_true rfl, Nat.le_of_ble_eq_true rfl⟩ (Nat.le_of_ble_eq_true rfl) dL_same_399 rfl (em_I 0 36 36 0) (em_C (by decide) (Nat.le_of_ble_eq_true rfl) rfl) (em_nd (by decide)) (g_kk1 (w2 := wX2 x cI cJ cZ C N S Qk Z jC jN jS jQ jZ ++ wL y cI cJ C N S Qk) (em3 0 36 36 0 (by decide) (Nat.le_of_ble_eq_true rfl) rfl rfl rfl) ?_)
      refine g_aload X 1 dL_same_402 rfl ?_
      refine g_bipush X (v := nI 7) dL_same_404 (by decide +kernel) ?_
      refine g_iload X 8 dL_same_406 rfl ?_
      refine g_imul X (v := nI (7 * i18)) dL_same_408 (pk_mul _ _) ?_
      refine g_iconst X (v := nI 5) dL_same_409 (by decide +kernel) ?_
      refine g_iadd X (v := nI (7 * i18 + 5)) dL_same_410 ((nI_add _ _).trans (congrArg nI (by omega))) ?_
      refine g_iald X 76 rfl (7 * i18 + 5) rfl (by omega) (Nat.le_of_ble_eq_true rfl) (v := (S 6 i18).toInt32) (lrE_5 C N S i18) dL_same_411 ?_
      refine g_i2l X (v := ((S 6 i18).toInt32).toInt64) dL_same_412 rfl ?_
      refine g_lj_ne X (tgt := 463) (pc1 := 414) dL_same_413 rfl dL_same_414 (by decide) (fun h63 => absurd (show tellW C S i18 4 = _ from b01 (hB i18 (by omega))) h63) (fun h63 => ?_)
      refine g_aload_n X 0 dL_same_417 rfl rfl ?_
      refine g_iload X 8 dL_same_418 rfl ?_
      refine g_iconst X (v := nI 5) dL_same_420 (by decide +kernel) ?_
      refine g_callV X (As := [.int (nI i18), .int (nI 5)]) (rest := []) (c_ofWell l D cI cJ cZ x (x 36) C N S Qk Z i18 5 (by omega) (by decide) hC) kM_L_101 kI_yX6_ofWell kS_yX6_ofWell kZ_RX6 kC_yX6_ofWell hV_X6_ofWell rfl rfl rfl 0 rfl (ci := 6) rfl ⟨Nat.le_of_ble_eq_true rfl, Nat.le_of_ble_eq_true rfl⟩ ⟨Nat.le_of_ble_eq_true rfl, Nat.le_of_ble_eq_true rfl⟩ (Nat.le_of_ble_eq_true rfl) dL_same_421 rfl (em_I 0 36 36 0) (em_C (by decide) (Nat.le_of_ble_eq_true rfl) rfl) (em_nd (by decide)) (g_kk1 (w2 := wX2 x cI cJ cZ C N S Qk Z jC jN jS jQ jZ ++ wL y cI cJ C N S Qk) (em3 0 36 36 0 (by decide) (Nat.le_of_ble_eq_true rfl) rfl rfl rfl) ?_)
      refine g_aload X 2 dL_same_424 rfl ?_
      refine g_iload X 8 dL_same_426 rfl ?_
      refine g_lald X 77 rfl (i18) rfl (by omega) (Nat.le_of_ble_eq_true rfl) (v := S 7 i18) rfl dL_same_428 ?_
      refine g_lj_ne X (tgt := 463) (pc1 := 430) dL_same_429 rfl dL_same_430 (by decide) (fun h64 => absurd rfl h64) (fun h64 => ?_)
      refine g_aload_n X 0 dL_same_433 rfl rfl ?_
      refine g_iload X 8 dL_same_434 rfl ?_
      refine g_bipush X (v := nI 6) dL_same_436 (by decide +kernel) ?_
      refine g_callV X (As := [.int (nI i18), .int (nI 6)]) (rest := []) (c_ofWell l D cI cJ cZ x (x 36) C N S Qk Z i18 6 (by omega) (by decide) hC) kM_L_101 kI_yX6_ofWell kS_yX6_ofWell kZ_RX6 kC_yX6_ofWell hV_X6_ofWell rfl rfl rfl 0 rfl (ci := 6) rfl ⟨Nat.le_of_ble_eq_true rfl, Nat.le_of_ble_eq_true rfl⟩ ⟨Nat.le_of_ble_eq_true rfl, Nat.le_of_ble_eq_true rfl⟩ (Nat.le_of_ble_eq_true rfl) dL_same_438 rfl (em_I 0 36 36 0) (em_C (by decide) (Nat.le_of_ble_eq_true rfl) rfl) (em_nd (by decide)) (g_kk1 (w2 := wX2 x cI cJ cZ C N S Qk Z jC jN jS jQ jZ ++ wL y cI cJ C N S Qk) (em3 0 36 36 0 (by decide) (Nat.le_of_ble_eq_true rfl) rfl rfl rfl) ?_)
      refine g_aload X 1 dL_same_441 rfl ?_
      refine g_bipush X (v := nI 7) dL_same_443 (by decide +kernel) ?_
      refine g_iload X 8 dL_same_445 rfl ?_
      refine g_imul X (v := nI (7 * i18)) dL_same_447 (pk_mul _ _) ?_
      refine g_bipush X (v := nI 6) dL_same_448 (by decide +kernel) ?_
      refine g_iadd X (v := nI (7 * i18 + 6)) dL_same_450 ((nI_add _ _).trans (congrArg nI (by omega))) ?_
      refine g_iald X 76 rfl (7 * i18 + 6) rfl (by omega) (Nat.le_of_ble_eq_true rfl) (v := (S 8 i18).toInt32 + 1) (lrE_6 C N S (k := i18) (by omega)) dL_same_451 ?_
      refine g_iconst X (v := nI 1) dL_same_452 (by decide +kernel) ?_
      refine g_isub X (v := (S 8 i18).toInt32) dL_same_453 (Int32.add_sub_cancel _ _) ?_
      refine g_i2l X (v := ((S 8 i18).toInt32).toInt64) dL_same_454 rfl ?_
      refine g_lj_ne X (tgt := 463) (pc1 := 456) dL_same_455 rfl dL_same_456 (by decide) (fun h65 => absurd rfl h65) (fun h65 => ?_)
      refine g_iconst X (v := nI 1) dL_same_459 (by decide +kernel) ?_
      refine g_goto X (tgt := 464) dL_same_460 (by decide) ?_
      refine g_istore X [(13, .int (nI 1)), (0, .ref (x 0)), (6, .ref (y 5)), (7, .ref (y 6)), (8, .ref (y 7)), (9, .ref (y 8)), (11, .ref (y 11)), (12, .ref (y 12)), (16, .int (nI i18))] dL_same_464 (Nat.le_of_ble_eq_true rfl) rfl ?_
      refine g_iinc X [(16, .int (nI (i18 + 1))), (13, .int (nI 1)), (0, .ref (x 0)), (6, .ref (y 5)), (7, .ref (y 6)), (8, .ref (y 7)), (9, .ref (y 8)), (11, .ref (y 11)), (12, .ref (y 12))] (q := 8) (v := nI (i18 + 1)) dL_same_466 rfl ((congrArg (fun z => nI (i18) + z) (show Int32.ofInt 1 = nI 1 by decide +kernel)).trans ((nI_add _ _).trans (congrArg nI (by omega)))) (Nat.le_of_ble_eq_true rfl) rfl ?_
      refine g_goto X (tgt := 295) dL_same_469 (by decide) ?_
      refine g_lv _ [2, 3, 4, 5, 6, 7, 8, 1, 0] rfl ?_
      exact ihL17 (i18 + 1)  (by omega) 
  refine g_lv _ [1, 2, 3, 4, 5, 7, 8, 9, 0] rfl ?_
  exact L17 ((N 0)) 0  (by omega) 
