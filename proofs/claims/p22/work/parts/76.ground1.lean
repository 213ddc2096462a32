set_option maxRecDepth 100000 in
set_option maxHeartbeats 4000000 in
theorem n_L_ground_506 (l : Launch) (D : va_G) (cI cJ cZ : ClassId) (y : Nat → Nat) (C : Cf) (N : Nat → Nat) (S : St) (Qk : Nat → Int64) (k : Int) (hC : Cok C N) (hR : Rok C) (hX : Xok C) (hW : Wk k S) (h0 : 0 ≤ k) (hk : k + 1000 ≤ 1099511627776) (hq : S 14 0 = lN (qN S) ∧ qN S ≤ 900000) (hn2 : N 2 ≤ 3) {p : Program} {e : Env} {s : State} {m : MethodId} {args : Array Value} {below : List Frame} {meth : Method} {c : Code} {A : Nat → Prop} (X : g_Cx p s m args c D A 23 cL_ground RL cI cJ cZ) (hr : meth.sig.returnType = none) (hlk : meth.locks = false) {Q : State → Prop} (hQ : MQ below (g_Post D A (g_eq none (wL y cI cJ C N (grS C N S) (shQ S Qk 12)))) args s 3 36 A = Q) (S4 : St) (eS4 : S4 = itr shS S 12) (Qk5 : Nat → Int64) (eQk5 : Qk5 = shQ S Qk 12) (S20 : St) (eS20 : S20 = itr (raS C) (crk C S4) 12) : g_G p l e rm_L_ground s m args below meth c D A 23 3 36 Q (wL y cI cJ C N S20 Qk5) [(0, .ref (y 0)), (1, .ref (y 1)), (2, .ref (y 2)), (5, .ref (y 7)), (6, .ref (y 8)), (7, .ref (y 10)), (9, .ref (y 12)), (13, .int (nI 12))] 506 [.int (nI 0)] := by
  have hN0 := hC.n0
  have hN1 := hC.n1
  have hN2 := hC.n2
  have hN0 := hC.n0
  have hN1 := hC.n1
  have hN2 := hC.n2
  have h5 : Wk k S4 := hW.row (by rw [eS4]; exact m5_0 _ 12)
  have h6 := crk_ok C S4 k hX (by omega) h5
  have h7 : Wk (k + 500) S20 := by rw [eS20]; exact (ra_ok C (crk C S4) k hR h6 h0 (by omega) 12 (by omega)).1
  refine g_istore X [(13, .int (nI 0)), (0, .ref (y 0)), (1, .ref (y 1)), (2, .ref (y 2)), (5, .ref (y 7)), (6, .ref (y 8)), (7, .ref (y 10)), (9, .ref (y 12))] dL_ground_506 (Nat.le_of_ble_eq_true rfl) rfl ?_
  have L21 : ∀ (n23 i22 : Nat) (S24 : St), i22 + n23 = (N 2) → S24 = itr (feS C) S20 i22 → g_G p l e rm_L_ground s m args below meth c D A 23 3 36 Q (wL y cI cJ C N S24 Qk5) [(0, .ref (y 0)), (1, .ref (y 1)), (2, .ref (y 2)), (5, .ref (y 7)), (6, .ref (y 8)), (7, .ref (y 10)), (9, .ref (y 12)), (13, .int (nI i22))] 508 [] := by
    intro n23
    induction n23 with
    | zero =>
      intro i22 S24 hi25 eS24
      obtain rfl : i22 = (N 2) := by omega
      have hD := fe_ok C N S20 (k + 500) hC h7 (by omega) (N 2) (by omega)
      rw [← eS24] at hD
      refine g_iload X 7 dL_ground_508 rfl ?_
      refine g_aload X 6 dL_ground_510 rfl ?_
      refine g_iconst X (v := nI 2) dL_ground_512 (by decide +kernel) ?_
      refine g_iald X 12 rfl (2) rfl (by omega) (Nat.le_of_ble_eq_true rfl) (v := nI (N 2)) rfl dL_ground_513 ?_
      refine g_icN_ge X (a := (N 2)) (b := N 2) (tgt := 679) (by omega) (by omega) dL_ground_514 (by decide) (fun h26 => ?_) (fun h26 => absurd h26 (by omega))
      refine g_vret X hr hlk hQ dL_ground_679 ?_
      show g_eq _ _ _ _
      refine ⟨rfl, ?_⟩
      rw [eS24, eQk5, eS20, eS4]
      rfl
    | succ n23 ihL21 =>
      intro i22 S24 hi25 eS24
      have hlti22 : i22 < (N 2) := by omega
      have hD := fe_ok C N S20 (k + 500) hC h7 (by omega) i22 (by omega)
      rw [← eS24] at hD
      have hs := (hC.sp hlti22).2
      have h00 := (hD _ hs).1
      refine g_iload X 7 dL_ground_508 rfl ?_
      refine g_aload X 6 dL_ground_510 rfl ?_
      refine g_iconst X (v := nI 2) dL_ground_512 (by decide +kernel) ?_
      refine g_iald X 12 rfl (2) rfl (by omega) (Nat.le_of_ble_eq_true rfl) (v := nI (N 2)) rfl dL_ground_513 ?_
      refine g_icN_ge X (a := i22) (b := N 2) (tgt := 679) (by omega) (by omega) dL_ground_514 (by decide) (fun h27 => absurd h27 (by omega)) (fun h27 => ?_)
      refine g_aload X 3 dL_ground_517 rfl ?_
      refine g_iconst X (v := nI 5) dL_ground_519 (by decide +kernel) ?_
      refine g_iload X 7 dL_ground_520 rfl ?_
      refine g_imul X (v := nI (5 * i22)) dL_ground_522 (pk_mul _ _) ?_
      refine g_iald X 7 rfl (5 * i22) rfl (by omega) (Nat.le_of_ble_eq_true rfl) (v := nI (spN C i22)) ((lrG_0 C S24 i22).trans (hC.sp (by omega)).1) dL_ground_523 ?_
      refine g_istore X [(14, .int (nI (spN C i22))), (0, .ref (y 0)), (1, .ref (y 1)), (2, .ref (y 2)), (5, .ref (y 7)), (6, .ref (y 8)), (7, .ref (y 10)), (9, .ref (y 12)), (13, .int (nI i22))] dL_ground_524 (Nat.le_of_ble_eq_true rfl) rfl ?_
      refine g_aload_n X 1 dL_ground_526 rfl rfl ?_
      refine g_iload X 0 dL_ground_527 rfl ?_
      refine g_lald X 0 rfl (spN C i22) rfl (by omega) (Nat.le_of_ble_eq_true rfl) (v := S24 0 (spN C i22)) rfl dL_ground_529 ?_
      refine g_aload X 4 dL_ground_530 rfl ?_
      refine g_iconst X (v := nI 5) dL_ground_532 (by decide +kernel) ?_
      refine g_iload X 8 dL_ground_533 rfl ?_
      refine g_imul X (v := nI (5 * i22)) dL_ground_535 (pk_mul _ _) ?_
      refine g_iconst X (v := nI 1) dL_ground_536 (by decide +kernel) ?_
      refine g_iadd X (v := nI (5 * i22 + 1)) dL_ground_537 ((nI_add _ _).trans (congrArg nI (by omega))) ?_
      refine g_iald X 7 rfl (5 * i22 + 1) rfl (by omega) (Nat.le_of_ble_eq_true rfl) (v := C 8 i22) (lrG_1 C S24 i22) dL_ground_538 ?_
      refine g_i2l X (v := (C 8 i22).toInt64) dL_ground_539 rfl ?_
      have J31 : ∀ (v30 : Int64), v30 = (if ((C 8 i22).toInt64) ≤ (S24 0 (spN C i22)) then if (S24 0 (spN C i22)) ≤ (4999 : Int64) then (S24 0 (spN C i22)) / (100 : Int64) else (50 : Int64) else (0 : Int64)) → g_G p l e rm_L_ground s m args below meth c D A 23 3 36 Q (wL y cI cJ C N S24 Qk5) [(0, .ref (y 0)), (1, .ref (y 1)), (2, .ref (y 2)), (5, .ref (y 7)), (6, .ref (y 8)), (7, .ref (y 10)), (9, .ref (y 12)), (13, .int (nI i22)), (14, .int (nI (spN C i22)))] 573 [.long v30] := by
        intro v30 ev30
        replace ev30 := ev30.trans (show _ = feG C S24 i22 from fe_l h00)
        refine g_lstore X [(15, .long v30), (0, .ref (y 0)), (1, .ref (y 1)), (2, .ref (y 2)), (5, .ref (y 7)), (6, .ref (y 8)), (7, .ref (y 10)), (9, .ref (y 12)), (13, .int (nI i22)), (14, .int (nI (spN C i22)))] dL_ground_573 (Nat.le_of_ble_eq_true rfl) rfl ?_
        refine g_iload X 9 dL_ground_575 rfl ?_
        refine g_lload X 0 dL_ground_577 rfl ?_
        refine g_aload_n X 1 dL_ground_579 rfl rfl ?_
        refine g_aload_n X 2 dL_ground_580 rfl rfl ?_
        refine g_aload_n X 3 dL_ground_581 rfl rfl ?_
        obtain ⟨S32, eS32⟩ : ∃ z : St, z = giveS S24 (spN C i22) v30 := ⟨_, rfl⟩
        refine g_callS X (As := [.int (nI (spN C i22)), .long v30, .ref (y 0), .ref (y 1), .ref (y 2)]) (rest := []) (m_L_gives l D cI cJ cZ y C N S24 Qk5 (spN C i22) v30 hs (hD.ok (by omega)) (by rw [ev30]; exact fe_x h00)) kM_L_30 kT_yL_gives kZ_RL kC_yL_gives hV_L_gives rfl rfl rfl ⟨Nat.le_of_ble_eq_true rfl, Nat.le_of_ble_eq_true rfl⟩ ⟨Nat.le_of_ble_eq_true rfl, Nat.le_of_ble_eq_true rfl⟩ (Nat.le_of_ble_eq_true rfl) dL_ground_582 rfl [0, 1, 2, 3, 4, 5, 6, 7, 8, 9, 10, 11, 12] rfl rfl (g_kk1 (w2 := wL y cI cJ C N S32 Qk5) (by rw [eS32]; exact ⟨[0, 1, 2, 3, 4, 5, 6, 7, 8, 9, 10, 11, 12], [], [0, 1, 2, 3, 4, 5, 6, 7, 8, 9, 10, 11, 12], [], rfl, rfl, rfl, rfl, by decide, rfl, rfl⟩) ?_)
        refine g_pop2_2 X dL_ground_585 rfl ?_
        by_cases hg : v30 ≤ 0
        · --
          refine g_aload X 4 dL_ground_586 rfl ?_
          refine g_iconst X (v := nI 5) dL_ground_588 (by decide +kernel) ?_
          refine g_iload X 8 dL_ground_589 rfl ?_
          refine g_imul X (v := nI (5 * i22)) dL_ground_591 (pk_mul _ _) ?_
          refine g_iconst X (v := nI 3) dL_ground_592 (by decide +kernel) ?_
          refine g_iadd X (v := nI (5 * i22 + 3)) dL_ground_593 ((nI_add _ _).trans (congrArg nI (by omega))) ?_
          refine g_lload X 0 dL_ground_594 rfl ?_
          refine g_l2i X (v := v30.toInt32) dL_ground_596 rfl ?_
          obtain ⟨S33, eS33⟩ : ∃ z : St, z = u2 S32 9 i22 v30 := ⟨_, rfl⟩
          refine g_iast X (ws' := wL y cI cJ C N S33 Qk5) 7 rfl (5 * i22 + 3) rfl (by omega) (Nat.le_of_ble_eq_true rfl) dL_ground_597 (by rw [eS33]; first | done | (rw [lrG_w3 _ _ i22 (v := v30) rfl]; rfl)) ?_
          refine g_aload X 4 dL_ground_598 rfl ?_
          refine g_iconst X (v := nI 5) dL_ground_600 (by decide +kernel) ?_
          refine g_iload X 8 dL_ground_601 rfl ?_
          refine g_imul X (v := nI (5 * i22)) dL_ground_603 (pk_mul _ _) ?_
          refine g_iconst X (v := nI 4) dL_ground_604 (by decide +kernel) ?_
          refine g_iadd X (v := nI (5 * i22 + 4)) dL_ground_605 ((nI_add _ _).trans (congrArg nI (by omega))) ?_
          refine g_lload X 0 dL_ground_606 rfl ?_
          refine g_lconst X (v := 0) dL_ground_608 (by decide +kernel) ?_
          refine g_lj_le X (tgt := 617) (pc1 := 610) dL_ground_609 rfl dL_ground_610 (by decide) (fun h34 => ?_) (fun h34 => absurd hg h34)
          refine g_aload X 4 dL_ground_617 rfl ?_
          refine g_iconst X (v := nI 5) dL_ground_619 (by decide +kernel) ?_
          refine g_iload X 8 dL_ground_620 rfl ?_
          refine g_imul X (v := nI (5 * i22)) dL_ground_622 (pk_mul _ _) ?_
          refine g_iconst X (v := nI 4) dL_ground_623 (by decide +kernel) ?_
          refine g_iadd X (v := nI (5 * i22 + 4)) dL_ground_624 ((nI_add _ _).trans (congrArg nI (by omega))) ?_
          refine g_iald X 7 rfl (5 * i22 + 4) rfl (by omega) (Nat.le_of_ble_eq_true rfl) (v := (S33 10 i22).toInt32) (lrG_4 C S33 i22) dL_ground_625 ?_
          refine g_iconst X (v := nI 1) dL_ground_626 (by decide +kernel) ?_
          refine g_iadd X (v := ((S33 10 i22).toInt32) + (nI 1)) dL_ground_627 rfl ?_
          obtain ⟨S35, eS35⟩ : ∃ z : St, z = u2 S33 10 i22 (S33 10 i22 + 1) := ⟨_, rfl⟩
          refine g_iast X (ws' := wL y cI cJ C N S35 Qk5) 7 rfl (5 * i22 + 4) rfl (by omega) (Nat.le_of_ble_eq_true rfl) dL_ground_628 (by rw [eS35]; first | done | (rw [lrG_w4 _ _ i22 (v := S33 10 i22 + 1) (by rw [Int64.toInt32_add]; rfl)]; rfl)) ?_
          refine g_aload X 6 dL_ground_629 rfl ?_
          refine g_iconst X (v := nI 3) dL_ground_631 (by decide +kernel) ?_
          refine g_dup2_11 X dL_ground_632 rfl rfl ?_
          refine g_lald X 10 rfl (3) rfl (by omega) (Nat.le_of_ble_eq_true rfl) (v := S35 12 3) rfl dL_ground_633 ?_
          refine g_lload X 0 dL_ground_634 rfl ?_
          refine g_ladd X (v := (S35 12 3) + v30) dL_ground_636 rfl ?_
          obtain ⟨S36, eS36⟩ : ∃ z : St, z = u2 S35 12 3 ((S35 12 3) + v30) := ⟨_, rfl⟩
          refine g_last X (ws' := wL y cI cJ C N S36 Qk5) 10 rfl (3) rfl (by omega) (Nat.le_of_ble_eq_true rfl) dL_ground_637 (by rw [eS36]; first | done | (rfl)) ?_
          refine g_iconst X (v := nI 0) dL_ground_638 (by decide +kernel) ?_
          refine g_istore X [(17, .int (nI 0)), (15, .long v30), (0, .ref (y 0)), (1, .ref (y 1)), (2, .ref (y 2)), (5, .ref (y 7)), (6, .ref (y 8)), (7, .ref (y 10)), (9, .ref (y 12)), (13, .int (nI i22)), (14, .int (nI (spN C i22)))] dL_ground_639 (Nat.le_of_ble_eq_true rfl) rfl ?_
          refine g_iload X 0 dL_ground_641 rfl ?_
          refine g_bipush X (v := nI 8) dL_ground_643 (by decide +kernel) ?_
          refine g_icN_ge X (a := 0) (b := 8) (tgt := 673) (by omega) (by omega) dL_ground_645 (by decide) (fun h37 => absurd h37 (by decide)) (fun h37 => ?_)
          refine g_lload X 1 dL_ground_648 rfl ?_
          refine g_lconst X (v := 0) dL_ground_650 (by decide +kernel) ?_
          refine g_lj_le X (tgt := 673) (pc1 := 652) dL_ground_651 rfl dL_ground_652 (by decide) (fun h38 => ?_) (fun h38 => absurd hg h38)
          replace eS36 : S36 = feS C i22 S24 := by rw [eS36, eS35, eS33, eS32, ev30]; exact fe_n (by rw [← ev30]; exact hg)
          refine g_iinc X [(13, .int (nI (i22 + 1))), (17, .int (nI 0)), (15, .long v30), (0, .ref (y 0)), (1, .ref (y 1)), (2, .ref (y 2)), (5, .ref (y 7)), (6, .ref (y 8)), (7, .ref (y 10)), (9, .ref (y 12)), (14, .int (nI (spN C i22)))] (q := 9) (v := nI (i22 + 1)) dL_ground_673 rfl ((congrArg (fun z => nI (i22) + z) (show Int32.ofInt 1 = nI 1 by decide +kernel)).trans ((nI_add _ _).trans (congrArg nI (by omega)))) (Nat.le_of_ble_eq_true rfl) rfl ?_
          refine g_goto X (tgt := 508) dL_ground_676 (by decide) ?_
          refine g_lv _ [3, 4, 5, 6, 7, 8, 9, 0] rfl ?_
          exact ihL21 (i22 + 1) _ (by omega) (by show _ = feS C i22 (itr (feS C) _ i22); rw [← eS24]; exact eS36)
        · --
          refine g_aload X 4 dL_ground_586 rfl ?_
          refine g_iconst X (v := nI 5) dL_ground_588 (by decide +kernel) ?_
          refine g_iload X 8 dL_ground_589 rfl ?_
          refine g_imul X (v := nI (5 * i22)) dL_ground_591 (pk_mul _ _) ?_
          refine g_iconst X (v := nI 3) dL_ground_592 (by decide +kernel) ?_
          refine g_iadd X (v := nI (5 * i22 + 3)) dL_ground_593 ((nI_add _ _).trans (congrArg nI (by omega))) ?_
          refine g_lload X 0 dL_ground_594 rfl ?_
          refine g_l2i X (v := v30.toInt32) dL_ground_596 rfl ?_
          obtain ⟨S39, eS39⟩ : ∃ z : St, z = u2 S32 9 i22 v30 := ⟨_, rfl⟩
          refine g_iast X (ws' := wL y cI cJ C N S39 Qk5) 7 rfl (5 * i22 + 3) rfl (by omega) (Nat.le_of_ble_eq_true rfl) dL_ground_597 (by rw [eS39]; first | done | (rw [lrG_w3 _ _ i22 (v := v30) rfl]; rfl)) ?_
          refine g_aload X 4 dL_ground_598 rfl ?_
          refine g_iconst X (v := nI 5) dL_ground_600 (by decide +kernel) ?_
          refine g_iload X 8 dL_ground_601 rfl ?_
          refine g_imul X (v := nI (5 * i22)) dL_ground_603 (pk_mul _ _) ?_
          refine g_iconst X (v := nI 4) dL_ground_604 (by decide +kernel) ?_
          refine g_iadd X (v := nI (5 * i22 + 4)) dL_ground_605 ((nI_add _ _).trans (congrArg nI (by omega))) ?_
          refine g_lload X 0 dL_ground_606 rfl ?_
          refine g_lconst X (v := 0) dL_ground_608 (by decide +kernel) ?_
          refine g_lj_le X (tgt := 617) (pc1 := 610) dL_ground_609 rfl dL_ground_610 (by decide) (fun h40 => absurd h40 hg) (fun h40 => ?_)
          refine g_iconst X (v := nI 0) dL_ground_613 (by decide +kernel) ?_
          refine g_goto X (tgt := 628) dL_ground_614 (by decide) ?_
          obtain ⟨S41, eS41⟩ : ∃ z : St, z = u2 S39 10 i22 0 := ⟨_, rfl⟩
          refine g_iast X (ws' := wL y cI cJ C N S41 Qk5) 7 rfl (5 * i22 + 4) rfl (by omega) (Nat.le_of_ble_eq_true rfl) dL_ground_628 (by rw [eS41]; first | done | (rw [lrG_w4 _ _ i22 (v := 0) (by decide)]; rfl)) ?_
          refine g_aload X 6 dL_ground_629 rfl ?_
          refine g_iconst X (v := nI 3) dL_ground_631 (by decide +kernel) ?_
          refine g_dup2_11 X dL_ground_632 rfl rfl ?_
          refine g_lald X 10 rfl (3) rfl (by omega) (Nat.le_of_ble_eq_true rfl) (v := S41 12 3) rfl dL_ground_633 ?_
          refine g_lload X 0 dL_ground_634 rfl ?_
          refine g_ladd X (v := (S41 12 3) + v30) dL_ground_636 rfl ?_
          obtain ⟨S42, eS42⟩ : ∃ z : St, z = u2 S41 12 3 ((S41 12 3) + v30) := ⟨_, rfl⟩
          refine g_last X (ws' := wL y cI cJ C N S42 Qk5) 10 rfl (3) rfl (by omega) (Nat.le_of_ble_eq_true rfl) dL_ground_637 (by rw [eS42]; first | done | (rfl)) ?_
          refine g_iconst X (v := nI 0) dL_ground_638 (by decide +kernel) ?_
          refine g_istore X [(17, .int (nI 0)), (15, .long v30), (0, .ref (y 0)), (1, .ref (y 1)), (2, .ref (y 2)), (5, .ref (y 7)), (6, .ref (y 8)), (7, .ref (y 10)), (9, .ref (y 12)), (13, .int (nI i22)), (14, .int (nI (spN C i22)))] dL_ground_639 (Nat.le_of_ble_eq_true rfl) rfl ?_
          have L43 : ∀ (n45 i44 : Nat) (S46 : St), i44 + n45 = 8 → S46 = clrS i22 S42 i44 → g_G p l e rm_L_ground s m args below meth c D A 23 3 36 Q (wL y cI cJ C N S46 Qk5) [(0, .ref (y 0)), (1, .ref (y 1)), (2, .ref (y 2)), (5, .ref (y 7)), (6, .ref (y 8)), (7, .ref (y 10)), (9, .ref (y 12)), (13, .int (nI i22)), (15, .long v30), (17, .int (nI i44))] 641 [] := by
            intro n45
            induction n45 with
            | zero =>
              intro i44 S46 hi47 eS46
              obtain rfl : i44 = 8 := by omega
              refine g_iload X 9 dL_ground_641 rfl ?_
              refine g_bipush X (v := nI 8) dL_ground_643 (by decide +kernel) ?_
              refine g_icN_ge X (a := 8) (b := 8) (tgt := 673) (by omega) (by omega) dL_ground_645 (by decide) (fun h48 => ?_) (fun h48 => absurd h48 (by omega))
              obtain ⟨S49, eS49⟩ : ∃ z : St, z = feS C i22 S24 := ⟨_, rfl⟩
              refine g_ws (ws' := wL y cI cJ C N S49 Qk5) (by rw [eS49, eS46, eS42, eS41, eS39, eS32, ev30]; exact fe_y (by rw [← ev30]; exact hg)) ?_
              refine g_iinc X [(13, .int (nI (i22 + 1))), (0, .ref (y 0)), (1, .ref (y 1)), (2, .ref (y 2)), (5, .ref (y 7)), (6, .ref (y 8)), (7, .ref (y 10)), (9, .ref (y 12)), (15, .long v30), (17, .int (nI 8))] (q := 7) (v := nI (i22 + 1)) dL_ground_673 rfl ((congrArg (fun z => nI (i22) + z) (show Int32.ofInt 1 = nI 1 by decide +kernel)).trans ((nI_add _ _).trans (congrArg nI (by omega)))) (Nat.le_of_ble_eq_true rfl) rfl ?_
              refine g_goto X (tgt := 508) dL_ground_676 (by decide) ?_
              refine g_lv _ [1, 2, 3, 4, 5, 6, 7, 0] rfl ?_
              exact ihL21 (i22 + 1) _ (by omega) (by show _ = feS C i22 (itr (feS C) _ i22); rw [← eS24]; exact eS49)
            | succ n45 ihL43 =>
              intro i44 S46 hi47 eS46
              have hlti44 : i44 < 8 := by omega
              refine g_iload X 9 dL_ground_641 rfl ?_
              refine g_bipush X (v := nI 8) dL_ground_643 (by decide +kernel) ?_
              refine g_icN_ge X (a := i44) (b := 8) (tgt := 673) (by omega) (by omega) dL_ground_645 (by decide) (fun h50 => absurd h50 (by omega)) (fun h50 => ?_)
              refine g_lload X 8 dL_ground_648 rfl ?_
              refine g_lconst X (v := 0) dL_ground_650 (by decide +kernel) ?_
              refine g_lj_le X (tgt := 673) (pc1 := 652) dL_ground_651 rfl dL_ground_652 (by decide) (fun h51 => absurd h51 hg) (fun h51 => ?_)
              refine g_aload X 4 dL_ground_655 rfl ?_
              refine g_bipush X (v := nI 8) dL_ground_657 (by decide +kernel) ?_
              refine g_iload X 7 dL_ground_659 rfl ?_
              refine g_imul X (v := nI (8 * i22)) dL_ground_661 (pk_mul _ _) ?_
              refine g_iload X 9 dL_ground_662 rfl ?_
              refine g_iadd X (v := nI (8 * i22 + i44)) dL_ground_664 ((nI_add _ _).trans (congrArg nI (by omega))) ?_
              refine g_lconst X (v := 0) dL_ground_665 (by decide +kernel) ?_
              obtain ⟨S52, eS52⟩ : ∃ z : St, z = u2 S46 11 (10 * i22 + i44) (0 : Int64) := ⟨_, rfl⟩
              refine g_last X (ws' := wL y cI cJ C N S52 Qk5) 8 rfl (8 * i22 + i44) rfl (by omega) (Nat.le_of_ble_eq_true rfl) dL_ground_666 (by rw [eS52]; first | done | (rw [lrA_w _ i22 (n := i44) (by omega)]; rfl)) ?_
              refine g_iinc X [(17, .int (nI (i44 + 1))), (0, .ref (y 0)), (1, .ref (y 1)), (2, .ref (y 2)), (5, .ref (y 7)), (6, .ref (y 8)), (7, .ref (y 10)), (9, .ref (y 12)), (13, .int (nI i22)), (15, .long v30)] (q := 9) (v := nI (i44 + 1)) dL_ground_667 rfl ((congrArg (fun z => nI (i44) + z) (show Int32.ofInt 1 = nI 1 by decide +kernel)).trans ((nI_add _ _).trans (congrArg nI (by omega)))) (Nat.le_of_ble_eq_true rfl) rfl ?_
              refine g_goto X (tgt := 641) dL_ground_670 (by decide) ?_
              refine g_lv _ [1, 2, 3, 4, 5, 6, 7, 8, 9, 0] rfl ?_
              exact ihL43 (i44 + 1) _ (by omega) (by (try rw [eS52]); (try rw [eS46]); first | done | (rfl))
          refine g_lv _ [2, 3, 4, 5, 6, 7, 8, 9, 1, 0] rfl ?_
          exact L43 (8) 0 _ (by omega) (by first | rfl | ((try rw [eS42]); (try rw [eS41]); (try rw [eS39]); (try rw [eS32]); (try rw [ev30]); (try rw [eS24]); (try rw [eS20]); (try rw [eQk5]); (try rw [eS4]); first | done | rfl))
      refine g_lj_ge X (tgt := 548) (pc1 := 541) dL_ground_540 rfl dL_ground_541 (by decide) (fun h28 => ?_) (fun h28 => ?_)
      · --
        refine g_aload_n X 1 dL_ground_548 rfl rfl ?_
        refine g_iload X 0 dL_ground_549 rfl ?_
        refine g_lald X 0 rfl (spN C i22) rfl (by omega) (Nat.le_of_ble_eq_true rfl) (v := S24 0 (spN C i22)) rfl dL_ground_551 ?_
        refine g_ldc2 X kL_L_68 dL_ground_552 ?_
        refine g_lj_le X (tgt := 565) (pc1 := 556) dL_ground_555 rfl dL_ground_556 (by decide) (fun h29 => ?_) (fun h29 => ?_)
        · --
          refine g_aload_n X 1 dL_ground_565 rfl rfl ?_
          refine g_iload X 0 dL_ground_566 rfl ?_
          refine g_lald X 0 rfl (spN C i22) rfl (by omega) (Nat.le_of_ble_eq_true rfl) (v := S24 0 (spN C i22)) rfl dL_ground_568 ?_
          refine g_ldc2 X kL_L_40 dL_ground_569 ?_
          refine g_ldiv X (v := (S24 0 (spN C i22)) / (100 : Int64)) dL_ground_572 (by decide +kernel) rfl ?_
          refine g_lv _ [1, 2, 3, 4, 5, 6, 7, 8, 0] rfl ?_
          exact J31 _ (by rw [if_pos (c := ((C 8 i22).toInt64) ≤ (S24 0 (spN C i22))) h28, if_pos (c := (S24 0 (spN C i22)) ≤ (4999 : Int64)) h29])
        · --
          refine g_ldc2 X kL_L_64 dL_ground_559 ?_
          refine g_goto X (tgt := 573) dL_ground_562 (by decide) ?_
          refine g_lv _ [1, 2, 3, 4, 5, 6, 7, 8, 0] rfl ?_
          exact J31 _ (by rw [if_pos (c := ((C 8 i22).toInt64) ≤ (S24 0 (spN C i22))) h28, if_neg (c := (S24 0 (spN C i22)) ≤ (4999 : Int64)) h29])
      · --
        refine g_lconst X (v := 0) dL_ground_544 (by decide +kernel) ?_
        refine g_goto X (tgt := 573) dL_ground_545 (by decide) ?_
        refine g_lv _ [1, 2, 3, 4, 5, 6, 7, 8, 0] rfl ?_
        exact J31 _ (by rw [if_neg (c := ((C 8 i22).toInt64) ≤ (S24 0 (spN C i22))) h28])
  refine g_lv _ [1, 2, 3, 4, 5, 6, 7, 0] rfl ?_
  exact L21 ((N 2)) 0 _ (by omega) (by first | rfl | ((try rw [eS20]); (try rw [eQk5]); (try rw [eS4]); first | done | rfl))
