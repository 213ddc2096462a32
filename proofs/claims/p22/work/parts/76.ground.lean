theorem hV_L_ground : yL_ground.cls = RL ∧ yL_ground.cls ≠ "java/lang/invoke/MethodHandle" ∧ yL_ground.cls ≠ "java/lang/invoke/VarHandle" ∧ (parseMethodDescriptor yL_ground.desc).map (fun d => d.parameters.length) = some 10 := by decide +kernel
abbrev rm_L_ground : Room := { frames := 2, cells := 3, slots := 36, locals := 51 }
set_option maxRecDepth 100000 in
set_option maxHeartbeats 4000000 in
theorem n_L_ground_506 (l : Launch) (D : va_G) (cI cJ cZ : ClassId) (y : Nat → Nat) (C : Cf) (N : Nat → Nat) (S : St) (Qk : Nat → Int64) (k : Int) (hC : Cok C N) (hR : Rok C) (hX : Xok C) (hW : Wk k S) (h0 : 0 ≤ k) (hk : k + 1000 ≤ 1099511627776) (hq : S 14 0 = lN (qN S) ∧ qN S ≤ 900000) {p : Program} {e : Env} {s : State} {m : MethodId} {args : Array Value} {below : List Frame} {meth : Method} {c : Code} {A : Nat → Prop} (X : g_Cx p s m args c D A 23 cL_ground RL cI cJ cZ) (hr : meth.sig.returnType = none) (hlk : meth.locks = false) {Q : State → Prop} (hQ : MQ below (g_Post D A (g_eq none (wL y cI cJ C N (grS C N S) (shQ S Qk 12)))) args s 3 36 A = Q) (S4 : St) (eS4 : S4 = itr shS S 12) (Qk5 : Nat → Int64) (eQk5 : Qk5 = shQ S Qk 12) (S20 : St) (eS20 : S20 = itr (raS C) (crk C S4) 12) : g_G p l e rm_L_ground s m args below meth c D A 23 3 36 Q (wL y cI cJ C N S20 Qk5) [(0, .ref (y 0)), (1, .ref (y 1)), (2, .ref (y 2)), (5, .ref (y 7)), (6, .ref (y 8)), (7, .ref (y 10)), (9, .ref (y 12)), (13, .int (nI 12))] 506 [.int (nI 0)] := by
  have hN0 := hC.n0
  have hN1 := hC.n1
  have hN2 := hC.n2
  have hN0 := hC.n0
  have hN1 := hC.n1
  have hN2 := hC.n2
  have h5 : Wk k S4 := hW.row (by rw [eS4]; exact m5_0 _ 12)
  have h6 := crk_ok C S4 k hX (by omega) h5
  have h7 : Wk (k + 500) S20 := by rw [eS20]; exact (ra_ok C (crk C S4) k hR h6 h0 (by omega) 12 (by omega)).1
  refine g_istore X [(13, .int (nI 0)), (0, .ref (y 0)), (1, .ref (y 1)), (2, .ref (y 2)), (5, .ref (y 7)), (6, .ref (y 8)), (7, .ref (y 10)), (9, .ref (y 12))] dL_ground_506 (Nat.le_of_ble_eq_true rfl) rfl ?_
  have L21 : ∀ (n23 i22 : Nat) (S24 : St), i22 + n23 = (N 2) → S24 = itr (feS C) S20 i22 → g_G p l e rm_L_ground s m args below meth c D A 23 3 36 Q (wL y cI cJ C N S24 Qk5) [(0, .ref (y 0)), (1, .ref (y 1)), (2, .ref (y 2)), (5, .ref (y 7)), (6, .ref (y 8)), (7, .ref (y 10)), (9, .ref (y 12)), (13, .int (nI i22))] 508 [] := by
    intro n23
    induction n23 with
    | zero =>
      intro i22 S24 hi25 eS24
      obtain rfl : i22 = (N 2) := by omega
      have hD := fe_ok C N S20 (k + 500) hC h7 (by omega) (N 2) (by omega)
      rw [← eS24] at hD
      refine g_iload X 7 dL_ground_508 rfl ?_
      refine g_aload X 6 dL_ground_510 rfl ?_
      refine g_iconst X (v := nI 2) dL_ground_512 (by decide +kernel) ?_
      refine g_iald X 12 rfl (2) rfl (by omega) (Nat.le_of_ble_eq_true rfl) (v := nI (N 2)) rfl dL_ground_513 ?_
      refine g_icN_ge X (a := (N 2)) (b := N 2) (tgt := 679) (by omega) (by omega) dL_ground_514 (by decide) (fun h26 => ?_) (fun h26 => absurd h26 (by omega))
      refine g_vret X hr hlk hQ dL_ground_679 ?_
      show g_eq _ _ _ _
      refine ⟨rfl, ?_⟩
      rw [eS24, eQk5, eS20, eS4]
      rfl
    | succ n23 ihL21 =>
      intro i22 S24 hi25 eS24
      have hlti22 : i22 < (N 2) := by omega
      have hD := fe_ok C N S20 (k + 500) hC h7 (by omega) i22 (by omega)
      rw [← eS24] at hD
      have hs := (hC.sp hlti22).2
      have h00 := (hD _ hs).1
      refine g_iload X 7 dL_ground_508 rfl ?_
      refine g_aload X 6 dL_ground_510 rfl ?_
      refine g_iconst X (v := nI 2) dL_ground_512 (by decide +kernel) ?_
      refine g_iald X 12 rfl (2) rfl (by omega) (Nat.le_of_ble_eq_true rfl) (v := nI (N 2)) rfl dL_ground_513 ?_
      refine g_icN_ge X (a := i22) (b := N 2) (tgt := 679) (by omega) (by omega) dL_ground_514 (by decide) (fun h27 => absurd h27 (by omega)) (fun h27 => ?_)
      refine g_aload X 3 dL_ground_517 rfl ?_
      refine g_iconst X (v := nI 5) dL_ground_519 (by decide +kernel) ?_
      refine g_iload X 7 dL_ground_520 rfl ?_
      refine g_imul X (v := nI (5 * i22)) dL_ground_522 (pk_mul _ _) ?_
      refine g_iald X 7 rfl (5 * i22) rfl (by omega) (Nat.le_of_ble_eq_true rfl) (v := nI (spN C i22)) ((eG_0 C S24 i22).trans (hC.sp (by omega)).1) dL_ground_523 ?_
      refine g_istore X [(14, .int (nI (spN C i22))), (0, .ref (y 0)), (1, .ref (y 1)), (2, .ref (y 2)), (5, .ref (y 7)), (6, .ref (y 8)), (7, .ref (y 10)), (9, .ref (y 12)), (13, .int (nI i22))] dL_ground_524 (Nat.le_of_ble_eq_true rfl) rfl ?_
      refine g_aload_n X 1 dL_ground_526 rfl rfl ?_
      refine g_iload X 0 dL_ground_527 rfl ?_
      refine g_lald X 0 rfl (spN C i22) rfl (by omega) (Nat.le_of_ble_eq_true rfl) (v := S24 0 (spN C i22)) rfl dL_ground_529 ?_
      refine g_aload X 4 dL_ground_530 rfl ?_
      refine g_iconst X (v := nI 5) dL_ground_532 (by decide +kernel) ?_
      refine g_iload X 8 dL_ground_533 rfl ?_
      refine g_imul X (v := nI (5 * i22)) dL_ground_535 (pk_mul _ _) ?_
      refine g_iconst X (v := nI 1) dL_ground_536 (by decide +kernel) ?_
      refine g_iadd X (v := nI (5 * i22 + 1)) dL_ground_537 ((nI_add _ _).trans (congrArg nI (by omega))) ?_
      refine g_iald X 7 rfl (5 * i22 + 1) rfl (by omega) (Nat.le_of_ble_eq_true rfl) (v := C 8 i22) (eG_1 C S24 i22) dL_ground_538 ?_
      refine g_i2l X (v := (C 8 i22).toInt64) dL_ground_539 rfl ?_
      have J31 : ∀ (v30 : Int64), v30 = (if ((C 8 i22).toInt64) ≤ (S24 0 (spN C i22)) then if (S24 0 (spN C i22)) ≤ (4999 : Int64) then (S24 0 (spN C i22)) / (100 : Int64) else (50 : Int64) else (0 : Int64)) → g_G p l e rm_L_ground s m args below meth c D A 23 3 36 Q (wL y cI cJ C N S24 Qk5) [(0, .ref (y 0)), (1, .ref (y 1)), (2, .ref (y 2)), (5, .ref (y 7)), (6, .ref (y 8)), (7, .ref (y 10)), (9, .ref (y 12)), (13, .int (nI i22)), (14, .int (nI (spN C i22)))] 573 [.long v30] := by
        intro v30 ev30
        replace ev30 := ev30.trans (show _ = feG C S24 i22 from fe_l h00)
        refine g_lstore X [(15, .long v30), (0, .ref (y 0)), (1, .ref (y 1)), (2, .ref (y 2)), (5, .ref (y 7)), (6, .ref (y 8)), (7, .ref (y 10)), (9, .ref (y 12)), (13, .int (nI i22)), (14, .int (nI (spN C i22)))] dL_ground_573 (Nat.le_of_ble_eq_true rfl) rfl ?_
        refine g_iload X 9 dL_ground_575 rfl ?_
        refine g_lload X 0 dL_ground_577 rfl ?_
        refine g_aload_n X 1 dL_ground_579 rfl rfl ?_
        refine g_aload_n X 2 dL_ground_580 rfl rfl ?_
        refine g_aload_n X 3 dL_ground_581 rfl rfl ?_
        obtain ⟨S32, eS32⟩ : ∃ z : St, z = giveS S24 (spN C i22) v30 := ⟨_, rfl⟩
        refine g_callS X (As := [.int (nI (spN C i22)), .long v30, .ref (y 0), .ref (y 1), .ref (y 2)]) (rest := []) (m_L_gives l D cI cJ cZ y C N S24 Qk5 (spN C i22) v30 hs (hD.ok (by omega)) (by rw [ev30]; exact fe_x h00)) kM_L_30 kT_yL_gives kZ_RL kC_yL_gives hV_L_gives rfl rfl rfl ⟨Nat.le_of_ble_eq_true rfl, Nat.le_of_ble_eq_true rfl⟩ ⟨Nat.le_of_ble_eq_true rfl, Nat.le_of_ble_eq_true rfl⟩ (Nat.le_of_ble_eq_true rfl) dL_ground_582 rfl [0, 1, 2, 3, 4, 5, 6, 7, 8, 9, 10, 11, 12] rfl rfl (g_kk1 (w2 := wL y cI cJ C N S32 Qk5) (by rw [eS32]; exact ⟨[0, 1, 2, 3, 4, 5, 6, 7, 8, 9, 10, 11, 12], [], [0, 1, 2, 3, 4, 5, 6, 7, 8, 9, 10, 11, 12], [], rfl, rfl, rfl, rfl, by decide, rfl, rfl⟩) ?_)
        refine g_pop2_2 X dL_ground_585 rfl ?_
        by_cases hg : v30 ≤ 0
        · --
          refine g_aload X 4 dL_ground_586 rfl ?_
          refine g_iconst X (v := nI 5) dL_ground_588 (by decide +kernel) ?_
          refine g_iload X 8 dL_ground_589 rfl ?_
          refine g_imul X (v := nI (5 * i22)) dL_ground_591 (pk_mul _ _) ?_
          refine g_iconst X (v := nI 3) dL_ground_592 (by decide +kernel) ?_
          refine g_iadd X (v := nI (5 * i22 + 3)) dL_ground_593 ((nI_add _ _).trans (congrArg nI (by omega))) ?_
          refine g_lload X 0 dL_ground_594 rfl ?_
          refine g_l2i X (v := v30.toInt32) dL_ground_596 rfl ?_
          obtain ⟨S33, eS33⟩ : ∃ z : St, z = u2 S32 9 i22 v30 := ⟨_, rfl⟩
          refine g_iast X (ws' := wL y cI cJ C N S33 Qk5) 7 rfl (5 * i22 + 3) rfl (by omega) (Nat.le_of_ble_eq_true rfl) dL_ground_597 (by rw [eS33]; first | done | (rw [eG_w3 _ _ i22 (v := v30) rfl]; rfl)) ?_
          refine g_aload X 4 dL_ground_598 rfl ?_
          refine g_iconst X (v := nI 5) dL_ground_600 (by decide +kernel) ?_
          refine g_iload X 8 dL_ground_601 rfl ?_
          refine g_imul X (v := nI (5 * i22)) dL_ground_603 (pk_mul _ _) ?_
          refine g_iconst X (v := nI 4) dL_ground_604 (by decide +kernel) ?_
          refine g_iadd X (v := nI (5 * i22 + 4)) dL_ground_605 ((nI_add _ _).trans (congrArg nI (by omega))) ?_
          refine g_lload X 0 dL_ground_606 rfl ?_
          refine g_lconst X (v := 0) dL_ground_608 (by decide +kernel) ?_
          have J36 : ∀ (v35 : Int32), v35 = (if v30 ≤ (0 : Int64) then ((S33 10 i22).toInt32) + (nI 1) else nI 0) → g_G p l e rm_L_ground s m args below meth c D A 23 3 36 Q (wL y cI cJ C N S33 Qk5) [(0, .ref (y 0)), (1, .ref (y 1)), (2, .ref (y 2)), (5, .ref (y 7)), (6, .ref (y 8)), (7, .ref (y 10)), (9, .ref (y 12)), (13, .int (nI i22)), (15, .long v30)] 628 [.int v35, .int (nI (5 * i22 + 4)), .ref (y 7)] := by
            intro v35 ev35
            obtain ⟨S37, eS37⟩ : ∃ z : St, z = u2 S33 10 i22 (S33 10 i22 + 1) := ⟨_, rfl⟩
            refine g_iast X (ws' := wL y cI cJ C N S37 Qk5) 7 rfl (5 * i22 + 4) rfl (by omega) (Nat.le_of_ble_eq_true rfl) dL_ground_628 (by rw [eS37]; first | done | (rw [eG_w4 _ _ i22 (v := S33 10 i22 + 1) (by rw [Int64.toInt32_add]; rfl)]; rfl)) ?_
            refine g_aload X 5 dL_ground_629 rfl ?_
            refine g_iconst X (v := nI 3) dL_ground_631 (by decide +kernel) ?_
            refine g_dup2_11 X dL_ground_632 rfl rfl ?_
            refine g_lald X 10 rfl (3) rfl (by omega) (Nat.le_of_ble_eq_true rfl) (v := S37 12 3) rfl dL_ground_633 ?_
            refine g_lload X 8 dL_ground_634 rfl ?_
            refine g_ladd X (v := (S37 12 3) + v30) dL_ground_636 rfl ?_
            obtain ⟨S38, eS38⟩ : ∃ z : St, z = u2 S37 12 3 ((S37 12 3) + v30) := ⟨_, rfl⟩
            refine g_last X (ws' := wL y cI cJ C N S38 Qk5) 10 rfl (3) rfl (by omega) (Nat.le_of_ble_eq_true rfl) dL_ground_637 (by rw [eS38]; first | done | (rfl)) ?_
            refine g_iconst X (v := nI 0) dL_ground_638 (by decide +kernel) ?_
            refine g_istore X [(17, .int (nI 0)), (0, .ref (y 0)), (1, .ref (y 1)), (2, .ref (y 2)), (5, .ref (y 7)), (6, .ref (y 8)), (7, .ref (y 10)), (9, .ref (y 12)), (13, .int (nI i22)), (15, .long v30)] dL_ground_639 (Nat.le_of_ble_eq_true rfl) rfl ?_
            refine g_iload X 0 dL_ground_641 rfl ?_
            refine g_bipush X (v := nI 8) dL_ground_643 (by decide +kernel) ?_
            refine g_icN_ge X (a := 0) (b := 8) (tgt := 673) (by omega) (by omega) dL_ground_645 (by decide) (fun h39 => absurd h39 (by decide)) (fun h39 => ?_)
            refine g_lload X 9 dL_ground_648 rfl ?_
            refine g_lconst X (v := 0) dL_ground_650 (by decide +kernel) ?_
            refine g_lj_le X (tgt := 673) (pc1 := 652) dL_ground_651 rfl dL_ground_652 (by decide) (fun h40 => ?_) (fun h40 => absurd hg h40)
            replace eS38 : S38 = feS C i22 S24 := by rw [eS38, eS37, eS33, eS32, ev30]; exact fe_n (by rw [← ev30]; exact hg)
            refine g_iinc X [(13, .int (nI (i22 + 1))), (17, .int (nI 0)), (0, .ref (y 0)), (1, .ref (y 1)), (2, .ref (y 2)), (5, .ref (y 7)), (6, .ref (y 8)), (7, .ref (y 10)), (9, .ref (y 12)), (15, .long v30)] (q := 8) (v := nI (i22 + 1)) dL_ground_673 rfl ((congrArg (fun z => nI (i22) + z) (show Int32.ofInt 1 = nI 1 by decide +kernel)).trans ((nI_add _ _).trans (congrArg nI (by omega)))) (Nat.le_of_ble_eq_true rfl) rfl ?_
            refine g_goto X (tgt := 508) dL_ground_676 (by decide) ?_
            refine g_lv _ [2, 3, 4, 5, 6, 7, 8, 0] rfl ?_
            exact ihL21 (i22 + 1) _ (by omega) (by show _ = feS C i22 (itr (feS C) _ i22); rw [← eS24]; exact eS38)
          refine g_lj_le X (tgt := 617) (pc1 := 610) dL_ground_609 rfl dL_ground_610 (by decide) (fun h34 => ?_) (fun h34 => ?_)
          · --
            refine g_aload X 4 dL_ground_617 rfl ?_
            refine g_iconst X (v := nI 5) dL_ground_619 (by decide +kernel) ?_
            refine g_iload X 8 dL_ground_620 rfl ?_
            refine g_imul X (v := nI (5 * i22)) dL_ground_622 (pk_mul _ _) ?_
            refine g_iconst X (v := nI 4) dL_ground_623 (by decide +kernel) ?_
            refine g_iadd X (v := nI (5 * i22 + 4)) dL_ground_624 ((nI_add _ _).trans (congrArg nI (by omega))) ?_
            refine g_iald X 7 rfl (5 * i22 + 4) rfl (by omega) (Nat.le_of_ble_eq_true rfl) (v := (S33 10 i22).toInt32) (eG_4 C S33 i22) dL_ground_625 ?_
            refine g_iconst X (v := nI 1) dL_ground_626 (by decide +kernel) ?_
            refine g_iadd X (v := ((S33 10 i22).toInt32) + (nI 1)) dL_ground_627 rfl ?_
            refine g_lv _ [1, 2, 3, 4, 5, 6, 7, 8, 0] rfl ?_
            exact J36 _ (by rw [if_pos (c := v30 ≤ (0 : Int64)) h34])
          · --
            refine g_iconst X (v := nI 0) dL_ground_613 (by decide +kernel) ?_
            refine g_goto X (tgt := 628) dL_ground_614 (by decide) ?_
            refine g_lv _ [1, 2, 3, 4, 5, 6, 7, 8, 0] rfl ?_
            exact J36 _ (by rw [if_neg (c := v30 ≤ (0 : Int64)) h34])
        · --
          refine g_aload X 4 dL_ground_586 rfl ?_
          refine g_iconst X (v := nI 5) dL_ground_588 (by decide +kernel) ?_
          refine g_iload X 8 dL_ground_589 rfl ?_
          refine g_imul X (v := nI (5 * i22)) dL_ground_591 (pk_mul _ _) ?_
          refine g_iconst X (v := nI 3) dL_ground_592 (by decide +kernel) ?_
          refine g_iadd X (v := nI (5 * i22 + 3)) dL_ground_593 ((nI_add _ _).trans (congrArg nI (by omega))) ?_
          refine g_lload X 0 dL_ground_594 rfl ?_
          refine g_l2i X (v := v30.toInt32) dL_ground_596 rfl ?_
          obtain ⟨S41, eS41⟩ : ∃ z : St, z = u2 S32 9 i22 v30 := ⟨_, rfl⟩
          refine g_iast X (ws' := wL y cI cJ C N S41 Qk5) 7 rfl (5 * i22 + 3) rfl (by omega) (Nat.le_of_ble_eq_true rfl) dL_ground_597 (by rw [eS41]; first | done | (rw [eG_w3 _ _ i22 (v := v30) rfl]; rfl)) ?_
          refine g_aload X 4 dL_ground_598 rfl ?_
          refine g_iconst X (v := nI 5) dL_ground_600 (by decide +kernel) ?_
          refine g_iload X 8 dL_ground_601 rfl ?_
          refine g_imul X (v := nI (5 * i22)) dL_ground_603 (pk_mul _ _) ?_
          refine g_iconst X (v := nI 4) dL_ground_604 (by decide +kernel) ?_
          refine g_iadd X (v := nI (5 * i22 + 4)) dL_ground_605 ((nI_add _ _).trans (congrArg nI (by omega))) ?_
          refine g_lload X 0 dL_ground_606 rfl ?_
          refine g_lconst X (v := 0) dL_ground_608 (by decide +kernel) ?_
          have J44 : ∀ (v43 : Int32), v43 = (if v30 ≤ (0 : Int64) then ((S41 10 i22).toInt32) + (nI 1) else nI 0) → g_G p l e rm_L_ground s m args below meth c D A 23 3 36 Q (wL y cI cJ C N S41 Qk5) [(0, .ref (y 0)), (1, .ref (y 1)), (2, .ref (y 2)), (5, .ref (y 7)), (6, .ref (y 8)), (7, .ref (y 10)), (9, .ref (y 12)), (13, .int (nI i22)), (15, .long v30)] 628 [.int v43, .int (nI (5 * i22 + 4)), .ref (y 7)] := by
            intro v43 ev43
            obtain ⟨S45, eS45⟩ : ∃ z : St, z = u2 S41 10 i22 (S41 10 i22 + 1) := ⟨_, rfl⟩
            refine g_iast X (ws' := wL y cI cJ C N S45 Qk5) 7 rfl (5 * i22 + 4) rfl (by omega) (Nat.le_of_ble_eq_true rfl) dL_ground_628 (by rw [eS45]; first | done | (rw [eG_w4 _ _ i22 (v := S41 10 i22 + 1) (by rw [Int64.toInt32_add]; rfl)]; rfl)) ?_
            refine g_aload X 5 dL_ground_629 rfl ?_
            refine g_iconst X (v := nI 3) dL_ground_631 (by decide +kernel) ?_
            refine g_dup2_11 X dL_ground_632 rfl rfl ?_
            refine g_lald X 10 rfl (3) rfl (by omega) (Nat.le_of_ble_eq_true rfl) (v := S45 12 3) rfl dL_ground_633 ?_
            refine g_lload X 8 dL_ground_634 rfl ?_
            refine g_ladd X (v := (S45 12 3) + v30) dL_ground_636 rfl ?_
            obtain ⟨S46, eS46⟩ : ∃ z : St, z = u2 S45 12 3 ((S45 12 3) + v30) := ⟨_, rfl⟩
            refine g_last X (ws' := wL y cI cJ C N S46 Qk5) 10 rfl (3) rfl (by omega) (Nat.le_of_ble_eq_true rfl) dL_ground_637 (by rw [eS46]; first | done | (rfl)) ?_
            refine g_iconst X (v := nI 0) dL_ground_638 (by decide +kernel) ?_
            refine g_istore X [(17, .int (nI 0)), (0, .ref (y 0)), (1, .ref (y 1)), (2, .ref (y 2)), (5, .ref (y 7)), (6, .ref (y 8)), (7, .ref (y 10)), (9, .ref (y 12)), (13, .int (nI i22)), (15, .long v30)] dL_ground_639 (Nat.le_of_ble_eq_true rfl) rfl ?_
            have L47 : ∀ (n49 i48 : Nat) (S50 : St), i48 + n49 = 8 → S50 = clrS i22 S46 i48 → g_G p l e rm_L_ground s m args below meth c D A 23 3 36 Q (wL y cI cJ C N S50 Qk5) [(0, .ref (y 0)), (1, .ref (y 1)), (2, .ref (y 2)), (5, .ref (y 7)), (6, .ref (y 8)), (7, .ref (y 10)), (9, .ref (y 12)), (13, .int (nI i22)), (15, .long v30), (17, .int (nI i48))] 641 [] := by
              intro n49
              induction n49 with
              | zero =>
                intro i48 S50 hi51 eS50
                obtain rfl : i48 = 8 := by omega
                refine g_iload X 9 dL_ground_641 rfl ?_
                refine g_bipush X (v := nI 8) dL_ground_643 (by decide +kernel) ?_
                refine g_icN_ge X (a := 8) (b := 8) (tgt := 673) (by omega) (by omega) dL_ground_645 (by decide) (fun h52 => ?_) (fun h52 => absurd h52 (by omega))
                obtain ⟨S53, eS53⟩ : ∃ z : St, z = feS C i22 S24 := ⟨_, rfl⟩
                refine g_ws (ws' := wL y cI cJ C N S53 Qk5) (by rw [eS53, eS50, eS46, eS45, eS41, eS32, ev30]; exact fe_y (by rw [← ev30]; exact hg)) ?_
                refine g_iinc X [(13, .int (nI (i22 + 1))), (0, .ref (y 0)), (1, .ref (y 1)), (2, .ref (y 2)), (5, .ref (y 7)), (6, .ref (y 8)), (7, .ref (y 10)), (9, .ref (y 12)), (15, .long v30), (17, .int (nI 8))] (q := 7) (v := nI (i22 + 1)) dL_ground_673 rfl ((congrArg (fun z => nI (i22) + z) (show Int32.ofInt 1 = nI 1 by decide +kernel)).trans ((nI_add _ _).trans (congrArg nI (by omega)))) (Nat.le_of_ble_eq_true rfl) rfl ?_
                refine g_goto X (tgt := 508) dL_ground_676 (by decide) ?_
                refine g_lv _ [1, 2, 3, 4, 5, 6, 7, 0] rfl ?_
                exact ihL21 (i22 + 1) _ (by omega) (by show _ = feS C i22 (itr (feS C) _ i22); rw [← eS24]; exact eS53)
              | succ n49 ihL47 =>
                intro i48 S50 hi51 eS50
                have hlti48 : i48 < 8 := by omega
                refine g_iload X 9 dL_ground_641 rfl ?_
                refine g_bipush X (v := nI 8) dL_ground_643 (by decide +kernel) ?_
                refine g_icN_ge X (a := i48) (b := 8) (tgt := 673) (by omega) (by omega) dL_ground_645 (by decide) (fun h54 => absurd h54 (by omega)) (fun h54 => ?_)
                refine g_lload X 8 dL_ground_648 rfl ?_
                refine g_lconst X (v := 0) dL_ground_650 (by decide +kernel) ?_
                refine g_lj_le X (tgt := 673) (pc1 := 652) dL_ground_651 rfl dL_ground_652 (by decide) (fun h55 => absurd h55 hg) (fun h55 => ?_)
                refine g_aload X 4 dL_ground_655 rfl ?_
                refine g_bipush X (v := nI 8) dL_ground_657 (by decide +kernel) ?_
                refine g_iload X 7 dL_ground_659 rfl ?_
                refine g_imul X (v := nI (8 * i22)) dL_ground_661 (pk_mul _ _) ?_
                refine g_iload X 9 dL_ground_662 rfl ?_
                refine g_iadd X (v := nI (8 * i22 + i48)) dL_ground_664 ((nI_add _ _).trans (congrArg nI (by omega))) ?_
                refine g_lconst X (v := 0) dL_ground_665 (by decide +kernel) ?_
                obtain ⟨S56, eS56⟩ : ∃ z : St, z = u2 S50 11 (10 * i22 + i48) (0 : Int64) := ⟨_, rfl⟩
                refine g_last X (ws' := wL y cI cJ C N S56 Qk5) 8 rfl (8 * i22 + i48) rfl (by omega) (Nat.le_of_ble_eq_true rfl) dL_ground_666 (by rw [eS56]; first | done | (rw [eA_w _ i22 (n := i48) (by omega)]; rfl)) ?_
                refine g_iinc X [(17, .int (nI (i48 + 1))), (0, .ref (y 0)), (1, .ref (y 1)), (2, .ref (y 2)), (5, .ref (y 7)), (6, .ref (y 8)), (7, .ref (y 10)), (9, .ref (y 12)), (13, .int (nI i22)), (15, .long v30)] (q := 9) (v := nI (i48 + 1)) dL_ground_667 rfl ((congrArg (fun z => nI (i48) + z) (show Int32.ofInt 1 = nI 1 by decide +kernel)).trans ((nI_add _ _).trans (congrArg nI (by omega)))) (Nat.le_of_ble_eq_true rfl) rfl ?_
                refine g_goto X (tgt := 641) dL_ground_670 (by decide) ?_
                refine g_lv _ [1, 2, 3, 4, 5, 6, 7, 8, 9, 0] rfl ?_
                exact ihL47 (i48 + 1) _ (by omega) (by (try rw [eS56]); (try rw [eS50]); first | done | (rfl))
            refine g_lv _ [1, 2, 3, 4, 5, 6, 7, 8, 9, 0] rfl ?_
            exact L47 (8) 0 _ (by omega) (by first | rfl | ((try rw [eS46]); (try rw [eS45]); (try rw [ev43]); (try rw [eS41]); (try rw [eS32]); (try rw [ev30]); (try rw [eS24]); (try rw [eS20]); (try rw [eQk5]); (try rw [eS4]); first | done | rfl))
          refine g_lj_le X (tgt := 617) (pc1 := 610) dL_ground_609 rfl dL_ground_610 (by decide) (fun h42 => ?_) (fun h42 => ?_)
          · --
            refine g_aload X 4 dL_ground_617 rfl ?_
            refine g_iconst X (v := nI 5) dL_ground_619 (by decide +kernel) ?_
            refine g_iload X 8 dL_ground_620 rfl ?_
            refine g_imul X (v := nI (5 * i22)) dL_ground_622 (pk_mul _ _) ?_
            refine g_iconst X (v := nI 4) dL_ground_623 (by decide +kernel) ?_
            refine g_iadd X (v := nI (5 * i22 + 4)) dL_ground_624 ((nI_add _ _).trans (congrArg nI (by omega))) ?_
            refine g_iald X 7 rfl (5 * i22 + 4) rfl (by omega) (Nat.le_of_ble_eq_true rfl) (v := (S41 10 i22).toInt32) (eG_4 C S41 i22) dL_ground_625 ?_
            refine g_iconst X (v := nI 1) dL_ground_626 (by decide +kernel) ?_
            refine g_iadd X (v := ((S41 10 i22).toInt32) + (nI 1)) dL_ground_627 rfl ?_
            refine g_lv _ [1, 2, 3, 4, 5, 6, 7, 8, 0] rfl ?_
            exact J44 _ (by rw [if_pos (c := v30 ≤ (0 : Int64)) h42])
          · --
            refine g_iconst X (v := nI 0) dL_ground_613 (by decide +kernel) ?_
            refine g_goto X (tgt := 628) dL_ground_614 (by decide) ?_
            refine g_lv _ [1, 2, 3, 4, 5, 6, 7, 8, 0] rfl ?_
            exact J44 _ (by rw [if_neg (c := v30 ≤ (0 : Int64)) h42])
      refine g_lj_ge X (tgt := 548) (pc1 := 541) dL_ground_540 rfl dL_ground_541 (by decide) (fun h28 => ?_) (fun h28 => ?_)
      · --
        refine g_aload_n X 1 dL_ground_548 rfl rfl ?_
        refine g_iload X 0 dL_ground_549 rfl ?_
        refine g_lald X 0 rfl (spN C i22) rfl (by omega) (Nat.le_of_ble_eq_true rfl) (v := S24 0 (spN C i22)) rfl dL_ground_551 ?_
        refine g_ldc2 X kL_L_68 dL_ground_552 ?_
        refine g_lj_le X (tgt := 565) (pc1 := 556) dL_ground_555 rfl dL_ground_556 (by decide) (fun h29 => ?_) (fun h29 => ?_)
        · --
          refine g_aload_n X 1 dL_ground_565 rfl rfl ?_
          refine g_iload X 0 dL_ground_566 rfl ?_
          refine g_lald X 0 rfl (spN C i22) rfl (by omega) (Nat.le_of_ble_eq_true rfl) (v := S24 0 (spN C i22)) rfl dL_ground_568 ?_
          refine g_ldc2 X kL_L_40 dL_ground_569 ?_
          refine g_ldiv X (v := (S24 0 (spN C i22)) / (100 : Int64)) dL_ground_572 (by decide +kernel) rfl ?_
          refine g_lv _ [1, 2, 3, 4, 5, 6, 7, 8, 0] rfl ?_
          exact J31 _ (by rw [if_pos (c := ((C 8 i22).toInt64) ≤ (S24 0 (spN C i22))) h28, if_pos (c := (S24 0 (spN C i22)) ≤ (4999 : Int64)) h29])
        · --
          refine g_ldc2 X kL_L_64 dL_ground_559 ?_
          refine g_goto X (tgt := 573) dL_ground_562 (by decide) ?_
          refine g_lv _ [1, 2, 3, 4, 5, 6, 7, 8, 0] rfl ?_
          exact J31 _ (by rw [if_pos (c := ((C 8 i22).toInt64) ≤ (S24 0 (spN C i22))) h28, if_neg (c := (S24 0 (spN C i22)) ≤ (4999 : Int64)) h29])
      · --
        refine g_lconst X (v := 0) dL_ground_544 (by decide +kernel) ?_
        refine g_goto X (tgt := 573) dL_ground_545 (by decide) ?_
        refine g_lv _ [1, 2, 3, 4, 5, 6, 7, 8, 0] rfl ?_
        exact J31 _ (by rw [if_neg (c := ((C 8 i22).toInt64) ≤ (S24 0 (spN C i22))) h28])
  refine g_lv _ [1, 2, 3, 4, 5, 6, 7, 0] rfl ?_
  exact L21 ((N 2)) 0 _ (by omega) (by first | rfl | ((try rw [eS20]); (try rw [eQk5]); (try rw [eS4]); first | done | rfl))
set_option maxRecDepth 100000 in
set_option maxHeartbeats 4000000 in
theorem n_L_ground_115 (l : Launch) (D : va_G) (cI cJ cZ : ClassId) (y : Nat → Nat) (C : Cf) (N : Nat → Nat) (S : St) (Qk : Nat → Int64) (k : Int) (hC : Cok C N) (hR : Rok C) (hX : Xok C) (hW : Wk k S) (h0 : 0 ≤ k) (hk : k + 1000 ≤ 1099511627776) (hq : S 14 0 = lN (qN S) ∧ qN S ≤ 900000) {p : Program} {e : Env} {s : State} {m : MethodId} {args : Array Value} {below : List Frame} {meth : Method} {c : Code} {A : Nat → Prop} (X : g_Cx p s m args c D A 23 cL_ground RL cI cJ cZ) (hr : meth.sig.returnType = none) (hlk : meth.locks = false) {Q : State → Prop} (hQ : MQ below (g_Post D A (g_eq none (wL y cI cJ C N (grS C N S) (shQ S Qk 12)))) args s 3 36 A = Q) (S4 : St) (eS4 : S4 = itr shS S 12) (Qk5 : Nat → Int64) (eQk5 : Qk5 = shQ S Qk 12) : g_G p l e rm_L_ground s m args below meth c D A 23 0 0 Q (wL y cI cJ C N S4 Qk5) [(0, .ref (y 0)), (1, .ref (y 1)), (2, .ref (y 2)), (3, .ref (y 3)), (4, .ref (y 4)), (5, .ref (y 7)), (6, .ref (y 8)), (7, .ref (y 10)), (8, .ref (y 11)), (9, .ref (y 12)), (10, .int (nI 12))] 115 [] := by
  have hN0 := hC.n0
  have hN1 := hC.n1
  have hN2 := hC.n2
  have hN0 := hC.n0
  have hN1 := hC.n1
  have hN2 := hC.n2
  have h5 : Wk k S4 := hW.row (by rw [eS4]; exact m5_0 _ 12)
  have hWS : ∀ b, b < 12 → 0 ≤ (S4 0 b).toInt ∧ (S4 0 b).toInt ≤ 1099511627776 := fun b hb => ⟨(h5 b hb).1, by have := (h5 b hb).2; omega⟩
  have hWK : Wok S4 := h5.ok (by omega)
  have h6 := crk_ok C S4 k hX (by omega) h5
  refine g_bipush X (v := nI 12) dL_ground_115 (by decide +kernel) ?_
  refine g_newaJ X 12 rfl (Nat.le_of_ble_eq_true rfl) (Nat.le_of_ble_eq_true rfl) (Nat.le_of_ble_eq_true rfl) dL_ground_117 (fun q0 => ?_)
  refine g_ws (ws' := wL y cI cJ C N S4 Qk5 ++ [(q0, .inl (cJ, 12, .inr (.inl (zS 0))))]) rfl ?_
  refine g_astore X [(10, .ref q0), (0, .ref (y 0)), (1, .ref (y 1)), (2, .ref (y 2)), (3, .ref (y 3)), (4, .ref (y 4)), (5, .ref (y 7)), (6, .ref (y 8)), (7, .ref (y 10)), (8, .ref (y 11)), (9, .ref (y 12))] dL_ground_119 (Nat.le_of_ble_eq_true rfl) rfl ?_
  refine g_bipush X (v := nI 12) dL_ground_121 (by decide +kernel) ?_
  refine g_newaJ X 12 rfl (Nat.le_of_ble_eq_true rfl) (Nat.le_of_ble_eq_true rfl) (Nat.le_of_ble_eq_true rfl) dL_ground_123 (fun q1 => ?_)
  refine g_ws (ws' := wL y cI cJ C N S4 Qk5 ++ [(q0, .inl (cJ, 12, .inr (.inl (zS 0)))), (q1, .inl (cJ, 12, .inr (.inl (zS 1))))]) rfl ?_
  refine g_astore X [(11, .ref q1), (10, .ref q0), (0, .ref (y 0)), (1, .ref (y 1)), (2, .ref (y 2)), (3, .ref (y 3)), (4, .ref (y 4)), (5, .ref (y 7)), (6, .ref (y 8)), (7, .ref (y 10)), (8, .ref (y 11)), (9, .ref (y 12))] dL_ground_125 (Nat.le_of_ble_eq_true rfl) rfl ?_
  refine g_bipush X (v := nI 12) dL_ground_127 (by decide +kernel) ?_
  refine g_newaJ X 12 rfl (Nat.le_of_ble_eq_true rfl) (Nat.le_of_ble_eq_true rfl) (Nat.le_of_ble_eq_true rfl) dL_ground_129 (fun q2 => ?_)
  refine g_ws (ws' := wL y cI cJ C N S4 Qk5 ++ [(q0, .inl (cJ, 12, .inr (.inl (zS 0)))), (q1, .inl (cJ, 12, .inr (.inl (zS 1)))), (q2, .inl (cJ, 12, .inr (.inl (zS 2))))]) rfl ?_
  refine g_astore X [(12, .ref q2), (11, .ref q1), (10, .ref q0), (0, .ref (y 0)), (1, .ref (y 1)), (2, .ref (y 2)), (3, .ref (y 3)), (4, .ref (y 4)), (5, .ref (y 7)), (6, .ref (y 8)), (7, .ref (y 10)), (8, .ref (y 11)), (9, .ref (y 12))] dL_ground_131 (Nat.le_of_ble_eq_true rfl) rfl ?_
  refine g_iconst X (v := nI 0) dL_ground_133 (by decide +kernel) ?_
  refine g_istore X [(13, .int (nI 0)), (12, .ref q2), (11, .ref q1), (10, .ref q0), (0, .ref (y 0)), (1, .ref (y 1)), (2, .ref (y 2)), (3, .ref (y 3)), (4, .ref (y 4)), (5, .ref (y 7)), (6, .ref (y 8)), (7, .ref (y 10)), (8, .ref (y 11)), (9, .ref (y 12))] dL_ground_134 (Nat.le_of_ble_eq_true rfl) rfl ?_
  have L8 : ∀ (n10 i9 : Nat) (X11 : St), i9 + n10 = 12 → X11 = itr (gX C S4) zS i9 → g_G p l e rm_L_ground s m args below meth c D A 23 3 36 Q (wL y cI cJ C N S4 Qk5 ++ [(q0, .inl (cJ, 12, .inr (.inl (X11 0)))), (q1, .inl (cJ, 12, .inr (.inl (X11 1)))), (q2, .inl (cJ, 12, .inr (.inl (X11 2))))]) [(0, .ref (y 0)), (1, .ref (y 1)), (2, .ref (y 2)), (4, .ref (y 4)), (5, .ref (y 7)), (6, .ref (y 8)), (7, .ref (y 10)), (9, .ref (y 12)), (10, .ref q0), (11, .ref q1), (12, .ref q2), (13, .int (nI i9))] 136 [] := by
    intro n10
    induction n10 with
    | zero =>
      intro i9 X11 hi12 eX11
      obtain rfl : i9 = 12 := by omega
      refine g_iload X 11 dL_ground_136 rfl ?_
      refine g_bipush X (v := nI 12) dL_ground_138 (by decide +kernel) ?_
      refine g_icN_ge X (a := 12) (b := 12) (tgt := 363) (by omega) (by omega) dL_ground_140 (by decide) (fun h13 => ?_) (fun h13 => absurd h13 (by omega))
      have hXc : ∀ b, b < 12 → ∀ c, c = 0 ∨ c = 1 ∨ c = 2 → X11 c b = crk C S4 c b := by rw [eX11]; exact gX_crk C _ _
      refine g_iconst X (v := nI 0) dL_ground_363 (by decide +kernel) ?_
      refine g_istore X [(13, .int (nI 0)), (0, .ref (y 0)), (1, .ref (y 1)), (2, .ref (y 2)), (4, .ref (y 4)), (5, .ref (y 7)), (6, .ref (y 8)), (7, .ref (y 10)), (9, .ref (y 12)), (10, .ref q0), (11, .ref q1), (12, .ref q2)] dL_ground_364 (Nat.le_of_ble_eq_true rfl) rfl ?_
      have L14 : ∀ (n16 i15 : Nat) (S17 : St), i15 + n16 = 12 → S17 = itr (lwS C X11) S4 i15 → g_G p l e rm_L_ground s m args below meth c D A 23 3 36 Q (wL y cI cJ C N S17 Qk5 ++ [(q0, .inl (cJ, 12, .inr (.inl (X11 0)))), (q1, .inl (cJ, 12, .inr (.inl (X11 1)))), (q2, .inl (cJ, 12, .inr (.inl (X11 2))))]) [(0, .ref (y 0)), (1, .ref (y 1)), (2, .ref (y 2)), (5, .ref (y 7)), (6, .ref (y 8)), (7, .ref (y 10)), (9, .ref (y 12)), (10, .ref q0), (11, .ref q1), (12, .ref q2), (13, .int (nI i15))] 366 [] := by
        intro n16
        induction n16 with
        | zero =>
          intro i15 S17 hi18 eS17
          obtain rfl : i15 = 12 := by omega
          refine g_sub (ws' := wL y cI cJ C N S17 Qk5) [0, 1, 2, 3, 4, 5, 6, 7, 8, 9, 10, 11, 12] rfl (by decide) ?_
          refine g_lv [(0, .ref (y 0)), (1, .ref (y 1)), (2, .ref (y 2)), (5, .ref (y 7)), (6, .ref (y 8)), (7, .ref (y 10)), (9, .ref (y 12)), (13, .int (nI 12))] [0, 1, 2, 3, 4, 5, 6, 10] rfl ?_
          refine g_iload X 7 dL_ground_366 rfl ?_
          refine g_bipush X (v := nI 12) dL_ground_368 (by decide +kernel) ?_
          refine g_icN_ge X (a := 12) (b := 12) (tgt := 489) (by omega) (by omega) dL_ground_370 (by decide) (fun h19 => ?_) (fun h19 => absurd h19 (by omega))
          refine g_aload X 5 dL_ground_489 rfl ?_
          refine g_iconst X (v := nI 4) dL_ground_491 (by decide +kernel) ?_
          refine g_dup2_11 X dL_ground_492 rfl rfl ?_
          refine g_lald X 10 rfl (4) rfl (by omega) (Nat.le_of_ble_eq_true rfl) (v := S17 12 4) rfl dL_ground_493 ?_
          refine g_ldc2 X kL_L_66 dL_ground_494 ?_
          refine g_aload X 6 dL_ground_497 rfl ?_
          refine g_iconst X (v := nI 5) dL_ground_499 (by decide +kernel) ?_
          refine g_iald X 12 rfl (5) rfl (by omega) (Nat.le_of_ble_eq_true rfl) (v := C 10 0) rfl dL_ground_500 ?_
          refine g_i2l X (v := (C 10 0).toInt64) dL_ground_501 rfl ?_
          refine g_lmul X (v := (4 : Int64) * ((C 10 0).toInt64)) dL_ground_502 rfl ?_
          refine g_ladd X (v := (S17 12 4) + ((4 : Int64) * ((C 10 0).toInt64))) dL_ground_503 rfl ?_
          obtain ⟨S20, eS20⟩ : ∃ z : St, z = u2 S17 12 4 ((S17 12 4) + ((4 : Int64) * ((C 10 0).toInt64))) := ⟨_, rfl⟩
          refine g_last X (ws' := wL y cI cJ C N S20 Qk5) 10 rfl (4) rfl (by omega) (Nat.le_of_ble_eq_true rfl) dL_ground_504 (by rw [eS20]; first | done | (rfl)) ?_
          replace eS20 : S20 = itr (raS C) (crk C S4) 12 := by rw [eS20, eS17]; exact lw_ra C hXc
          refine g_iconst X (v := nI 0) dL_ground_505 (by decide +kernel) ?_
          exact n_L_ground_506 l D cI cJ cZ y C N S Qk k hC hR hX hW h0 hk hq X hr hlk hQ S4 eS4 Qk5 eQk5 S20 eS20
        | succ n16 ihL14 =>
          intro i15 S17 hi18 eS17
          have hlti15 : i15 < 12 := by omega
          have hX0 : 0 ≤ (X11 0 i15).toInt ∧ (X11 0 i15).toInt ≤ k := by rw [hXc i15 hlti15 0 (by simp)]; exact h6 i15 hlti15
          refine g_iload X 10 dL_ground_366 rfl ?_
          refine g_bipush X (v := nI 12) dL_ground_368 (by decide +kernel) ?_
          refine g_icN_ge X (a := i15) (b := 12) (tgt := 489) (by omega) (by omega) dL_ground_370 (by decide) (fun h57 => absurd h57 (by omega)) (fun h57 => ?_)
          refine g_aload_n X 0 dL_ground_373 rfl rfl ?_
          refine g_iload X 10 dL_ground_374 rfl ?_
          refine g_iload X 10 dL_ground_376 rfl ?_
          refine g_bipush X (v := nI 7) dL_ground_378 (by decide +kernel) ?_
          have J60 : ∀ (v59 : Int64), v59 = (if i15 ≤ 7 then X11 0 i15 else (X11 0 i15) + ((C 10 0).toInt64)) → g_G p l e rm_L_ground s m args below meth c D A 23 3 36 Q (wL y cI cJ C N S17 Qk5 ++ [(q0, .inl (cJ, 12, .inr (.inl (X11 0)))), (q1, .inl (cJ, 12, .inr (.inl (X11 1)))), (q2, .inl (cJ, 12, .inr (.inl (X11 2))))]) [(0, .ref (y 0)), (1, .ref (y 1)), (2, .ref (y 2)), (5, .ref (y 7)), (6, .ref (y 8)), (7, .ref (y 10)), (9, .ref (y 12)), (10, .ref q0), (11, .ref q1), (12, .ref q2), (13, .int (nI i15))] 402 [.long v59, .int (nI i15), .ref (y 0)] := by
            intro v59 ev59
            obtain ⟨S61, eS61⟩ : ∃ z : St, z = u2 S17 0 i15 v59 := ⟨_, rfl⟩
            refine g_last X (ws' := wL y cI cJ C N S61 Qk5 ++ [(q0, .inl (cJ, 12, .inr (.inl (X11 0)))), (q1, .inl (cJ, 12, .inr (.inl (X11 1)))), (q2, .inl (cJ, 12, .inr (.inl (X11 2))))]) 0 rfl (i15) rfl (by omega) (Nat.le_of_ble_eq_true rfl) dL_ground_402 (by rw [eS61]; first | done | (rfl)) ?_
            refine g_aload_n X 1 dL_ground_403 rfl rfl ?_
            refine g_iload X 10 dL_ground_404 rfl ?_
            refine g_iload X 10 dL_ground_406 rfl ?_
            refine g_bipush X (v := nI 7) dL_ground_408 (by decide +kernel) ?_
            have J64 : ∀ (v63 : Int64), v63 = (if i15 ≤ 7 then X11 1 i15 else (X11 1 i15) + ((80 : Int64) * ((C 10 0).toInt64))) → g_G p l e rm_L_ground s m args below meth c D A 23 3 36 Q (wL y cI cJ C N S61 Qk5 ++ [(q0, .inl (cJ, 12, .inr (.inl (X11 0)))), (q1, .inl (cJ, 12, .inr (.inl (X11 1)))), (q2, .inl (cJ, 12, .inr (.inl (X11 2))))]) [(0, .ref (y 0)), (1, .ref (y 1)), (2, .ref (y 2)), (5, .ref (y 7)), (6, .ref (y 8)), (7, .ref (y 10)), (9, .ref (y 12)), (10, .ref q0), (11, .ref q1), (12, .ref q2), (13, .int (nI i15))] 436 [.long v63, .int (nI i15), .ref (y 1)] := by
              intro v63 ev63
              obtain ⟨S65, eS65⟩ : ∃ z : St, z = u2 S61 1 i15 v63 := ⟨_, rfl⟩
              refine g_last X (ws' := wL y cI cJ C N S65 Qk5 ++ [(q0, .inl (cJ, 12, .inr (.inl (X11 0)))), (q1, .inl (cJ, 12, .inr (.inl (X11 1)))), (q2, .inl (cJ, 12, .inr (.inl (X11 2))))]) 1 rfl (i15) rfl (by omega) (Nat.le_of_ble_eq_true rfl) dL_ground_436 (by rw [eS65]; first | done | (rfl)) ?_
              refine g_aload_n X 2 dL_ground_437 rfl rfl ?_
              refine g_iload X 10 dL_ground_438 rfl ?_
              refine g_aload X 9 dL_ground_440 rfl ?_
              refine g_iload X 10 dL_ground_442 rfl ?_
              refine g_lald X 15 rfl (i15) rfl (by omega) (Nat.le_of_ble_eq_true rfl) (v := X11 2 i15) rfl dL_ground_444 ?_
              obtain ⟨S66, eS66⟩ : ∃ z : St, z = u2 S65 2 i15 (X11 2 i15) := ⟨_, rfl⟩
              refine g_last X (ws' := wL y cI cJ C N S66 Qk5 ++ [(q0, .inl (cJ, 12, .inr (.inl (X11 0)))), (q1, .inl (cJ, 12, .inr (.inl (X11 1)))), (q2, .inl (cJ, 12, .inr (.inl (X11 2))))]) 2 rfl (i15) rfl (by omega) (Nat.le_of_ble_eq_true rfl) dL_ground_445 (by rw [eS66]; first | done | (rfl)) ?_
              replace eS66 : S66 = fiS C X11 i15 S17 := by rw [eS66, eS65, eS61, ev63, ev59]; rfl
              have hfi : 0 ≤ (S66 0 i15).toInt ∧ (S66 0 i15).toInt ≤ 1099511627776 := by rw [eS66]; exact fi_b hR hX0 hk
              refine g_ldc2 X kL_L_36 dL_ground_446 ?_
              refine g_iload X 10 dL_ground_449 rfl ?_
              refine g_aload_n X 0 dL_ground_451 rfl rfl ?_
              refine g_aload_n X 1 dL_ground_452 rfl rfl ?_
              refine g_callS X (As := [.int (nI i15), .ref (y 0), .ref (y 1)]) (rest := [.long (300 : Int64)]) (m_L_hot l D cI cJ cZ y C N S66 Qk5 i15 (by omega) (ne_b hfi)) kM_L_18 kT_yL_hot kZ_RL kC_yL_hot hV_L_hot rfl rfl rfl ⟨Nat.le_of_ble_eq_true rfl, Nat.le_of_ble_eq_true rfl⟩ ⟨Nat.le_of_ble_eq_true rfl, Nat.le_of_ble_eq_true rfl⟩ (Nat.le_of_ble_eq_true rfl) dL_ground_453 rfl [0, 1, 2, 3, 4, 5, 6, 7, 8, 9, 10, 11, 12] rfl rfl (g_kk1 (w2 := wL y cI cJ C N S66 Qk5 ++ [(q0, .inl (cJ, 12, .inr (.inl (X11 0)))), (q1, .inl (cJ, 12, .inr (.inl (X11 1)))), (q2, .inl (cJ, 12, .inr (.inl (X11 2))))]) ⟨[0, 1, 2, 3, 4, 5, 6, 7, 8, 9, 10, 11, 12], [13, 14, 15], [3, 4, 5, 6, 7, 8, 9, 10, 11, 12, 13, 14, 15, 0, 1, 2], ([13, 14, 15].filterMap fun i => (wL y cI cJ C N S66 Qk5 ++ [(q0, .inl (cJ, 12, .inr (.inl (X11 0)))), (q1, .inl (cJ, 12, .inr (.inl (X11 1)))), (q2, .inl (cJ, 12, .inr (.inl (X11 2))))])[i]?), rfl, rfl, rfl, rfl, by decide, rfl, rfl⟩ ?_)
              refine g_lsub X (v := (300 : Int64) - (deg S66 i15)) dL_ground_456 rfl ?_
              refine g_lstore X [(14, .long ((300 : Int64) - (deg S66 i15))), (0, .ref (y 0)), (1, .ref (y 1)), (2, .ref (y 2)), (5, .ref (y 7)), (6, .ref (y 8)), (7, .ref (y 10)), (9, .ref (y 12)), (10, .ref q0), (11, .ref q1), (12, .ref q2), (13, .int (nI i15))] dL_ground_457 (Nat.le_of_ble_eq_true rfl) rfl ?_
              refine g_aload_n X 2 dL_ground_459 rfl rfl ?_
              refine g_iload X 11 dL_ground_460 rfl ?_
              refine g_dup2_11 X dL_ground_462 rfl rfl ?_
              refine g_lald X 1 rfl (i15) rfl (by omega) (Nat.le_of_ble_eq_true rfl) (v := S66 1 i15) rfl dL_ground_463 ?_
              refine g_lload X 0 dL_ground_464 rfl ?_
              refine g_lconst X (v := 0) dL_ground_466 (by decide +kernel) ?_
              have J69 : ∀ (v68 : Int64), v68 = (if ((300 : Int64) - (deg S66 i15)) ≤ (0 : Int64) then (0 : Int64) else (50 : Int64) * ((300 : Int64) - (deg S66 i15))) → g_G p l e rm_L_ground s m args below meth c D A 23 3 36 Q (wL y cI cJ C N S66 Qk5 ++ [(q0, .inl (cJ, 12, .inr (.inl (X11 0)))), (q1, .inl (cJ, 12, .inr (.inl (X11 1)))), (q2, .inl (cJ, 12, .inr (.inl (X11 2))))]) [(0, .ref (y 0)), (1, .ref (y 1)), (2, .ref (y 2)), (5, .ref (y 7)), (6, .ref (y 8)), (7, .ref (y 10)), (9, .ref (y 12)), (10, .ref q0), (11, .ref q1), (12, .ref q2), (13, .int (nI i15))] 481 [.long v68, .long (S66 1 i15), .int (nI i15), .ref (y 1)] := by
                intro v68 ev68
                refine g_ladd X (v := (S66 1 i15) + v68) dL_ground_481 rfl ?_
                obtain ⟨S70, eS70⟩ : ∃ z : St, z = u2 S66 1 i15 ((S66 1 i15) + v68) := ⟨_, rfl⟩
                refine g_last X (ws' := wL y cI cJ C N S70 Qk5 ++ [(q0, .inl (cJ, 12, .inr (.inl (X11 0)))), (q1, .inl (cJ, 12, .inr (.inl (X11 1)))), (q2, .inl (cJ, 12, .inr (.inl (X11 2))))]) 1 rfl (i15) rfl (by omega) (Nat.le_of_ble_eq_true rfl) dL_ground_482 (by rw [eS70]; first | done | (rfl)) ?_
                refine g_iinc X [(13, .int (nI (i15 + 1))), (0, .ref (y 0)), (1, .ref (y 1)), (2, .ref (y 2)), (5, .ref (y 7)), (6, .ref (y 8)), (7, .ref (y 10)), (9, .ref (y 12)), (10, .ref q0), (11, .ref q1), (12, .ref q2)] (q := 10) (v := nI (i15 + 1)) dL_ground_483 rfl ((congrArg (fun z => nI (i15) + z) (show Int32.ofInt 1 = nI 1 by decide +kernel)).trans ((nI_add _ _).trans (congrArg nI (by omega)))) (Nat.le_of_ble_eq_true rfl) rfl ?_
                refine g_goto X (tgt := 366) dL_ground_486 (by decide) ?_
                refine g_lv _ [1, 2, 3, 4, 5, 6, 7, 8, 9, 10, 0] rfl ?_
                exact ihL14 (i15 + 1) _ (by omega) (by show _ = lwS C X11 i15 (itr (lwS C X11) _ i15); rw [← eS17]; unfold lwS; rw [eS70, ev68, warm_l hfi, eS66])
              refine g_lj_le X (tgt := 480) (pc1 := 468) dL_ground_467 rfl dL_ground_468 (by decide) (fun h67 => ?_) (fun h67 => ?_)
              · --
                refine g_lconst X (v := 0) dL_ground_480 (by decide +kernel) ?_
                refine g_lv _ [1, 2, 3, 4, 5, 6, 7, 8, 9, 10, 11] rfl ?_
                exact J69 _ (by rw [if_pos (c := ((300 : Int64) - (deg S66 i15)) ≤ (0 : Int64)) h67])
              · --
                refine g_ldc2 X kL_L_64 dL_ground_471 ?_
                refine g_lload X 0 dL_ground_474 rfl ?_
                refine g_lmul X (v := (50 : Int64) * ((300 : Int64) - (deg S66 i15))) dL_ground_476 rfl ?_
                refine g_goto X (tgt := 481) dL_ground_477 (by decide) ?_
                refine g_lv _ [1, 2, 3, 4, 5, 6, 7, 8, 9, 10, 11] rfl ?_
                exact J69 _ (by rw [if_neg (c := ((300 : Int64) - (deg S66 i15)) ≤ (0 : Int64)) h67])
            refine g_icN_le X (a := i15) (b := 7) (tgt := 431) (by omega) (by omega) dL_ground_410 (by decide) (fun h62 => ?_) (fun h62 => ?_)
            · --
              refine g_aload X 8 dL_ground_431 rfl ?_
              refine g_iload X 10 dL_ground_433 rfl ?_
              refine g_lald X 14 rfl (i15) rfl (by omega) (Nat.le_of_ble_eq_true rfl) (v := X11 1 i15) rfl dL_ground_435 ?_
              exact J64 _ (by rw [if_pos (c := i15 ≤ 7) h62])
            · --
              refine g_aload X 8 dL_ground_413 rfl ?_
              refine g_iload X 10 dL_ground_415 rfl ?_
              refine g_lald X 14 rfl (i15) rfl (by omega) (Nat.le_of_ble_eq_true rfl) (v := X11 1 i15) rfl dL_ground_417 ?_
              refine g_ldc2 X kL_L_62 dL_ground_418 ?_
              refine g_aload X 6 dL_ground_421 rfl ?_
              refine g_iconst X (v := nI 5) dL_ground_423 (by decide +kernel) ?_
              refine g_iald X 12 rfl (5) rfl (by omega) (Nat.le_of_ble_eq_true rfl) (v := C 10 0) rfl dL_ground_424 ?_
              refine g_i2l X (v := (C 10 0).toInt64) dL_ground_425 rfl ?_
              refine g_lmul X (v := (80 : Int64) * ((C 10 0).toInt64)) dL_ground_426 rfl ?_
              refine g_ladd X (v := (X11 1 i15) + ((80 : Int64) * ((C 10 0).toInt64))) dL_ground_427 rfl ?_
              refine g_goto X (tgt := 436) dL_ground_428 (by decide) ?_
              exact J64 _ (by rw [if_neg (c := i15 ≤ 7) h62])
          refine g_icN_le X (a := i15) (b := 7) (tgt := 397) (by omega) (by omega) dL_ground_380 (by decide) (fun h58 => ?_) (fun h58 => ?_)
          · --
            refine g_aload X 7 dL_ground_397 rfl ?_
            refine g_iload X 10 dL_ground_399 rfl ?_
            refine g_lald X 13 rfl (i15) rfl (by omega) (Nat.le_of_ble_eq_true rfl) (v := X11 0 i15) rfl dL_ground_401 ?_
            exact J60 _ (by rw [if_pos (c := i15 ≤ 7) h58])
          · --
            refine g_aload X 7 dL_ground_383 rfl ?_
            refine g_iload X 10 dL_ground_385 rfl ?_
            refine g_lald X 13 rfl (i15) rfl (by omega) (Nat.le_of_ble_eq_true rfl) (v := X11 0 i15) rfl dL_ground_387 ?_
            refine g_aload X 6 dL_ground_388 rfl ?_
            refine g_iconst X (v := nI 5) dL_ground_390 (by decide +kernel) ?_
            refine g_iald X 12 rfl (5) rfl (by omega) (Nat.le_of_ble_eq_true rfl) (v := C 10 0) rfl dL_ground_391 ?_
            refine g_i2l X (v := (C 10 0).toInt64) dL_ground_392 rfl ?_
            refine g_ladd X (v := (X11 0 i15) + ((C 10 0).toInt64)) dL_ground_393 rfl ?_
            refine g_goto X (tgt := 402) dL_ground_394 (by decide) ?_
            exact J60 _ (by rw [if_neg (c := i15 ≤ 7) h58])
      refine g_lv _ [1, 2, 3, 5, 6, 7, 8, 9, 10, 11, 0] rfl ?_
      exact L14 (12) 0 _ (by omega) (by first | rfl | ((try rw [eX11]); (try rw [eQk5]); (try rw [eS4]); first | done | rfl))
    | succ n10 ihL8 =>
      intro i9 X11 hi12 eX11
      have hlti9 : i9 < 12 := by omega
      refine g_iload X 11 dL_ground_136 rfl ?_
      refine g_bipush X (v := nI 12) dL_ground_138 (by decide +kernel) ?_
      refine g_icN_ge X (a := i9) (b := 12) (tgt := 363) (by omega) (by omega) dL_ground_140 (by decide) (fun h71 => absurd h71 (by omega)) (fun h71 => ?_)
      refine g_aload X 8 dL_ground_143 rfl ?_
      refine g_iload X 11 dL_ground_145 rfl ?_
      refine g_aload_n X 0 dL_ground_147 rfl rfl ?_
      refine g_iload X 11 dL_ground_148 rfl ?_
      refine g_lald X 0 rfl (i9) rfl (by omega) (Nat.le_of_ble_eq_true rfl) (v := S4 0 i9) rfl dL_ground_150 ?_
      obtain ⟨X72, eX72⟩ : ∃ z : St, z = u2 X11 0 i9 (S4 0 i9) := ⟨_, rfl⟩
      refine g_last X (ws' := wL y cI cJ C N S4 Qk5 ++ [(q0, .inl (cJ, 12, .inr (.inl (X72 0)))), (q1, .inl (cJ, 12, .inr (.inl (X72 1)))), (q2, .inl (cJ, 12, .inr (.inl (X72 2))))]) 13 rfl (i9) rfl (by omega) (Nat.le_of_ble_eq_true rfl) dL_ground_151 (by rw [eX72]; first | done | (rfl)) ?_
      refine g_aload X 9 dL_ground_152 rfl ?_
      refine g_iload X 11 dL_ground_154 rfl ?_
      refine g_aload_n X 1 dL_ground_156 rfl rfl ?_
      refine g_iload X 11 dL_ground_157 rfl ?_
      refine g_lald X 1 rfl (i9) rfl (by omega) (Nat.le_of_ble_eq_true rfl) (v := S4 1 i9) rfl dL_ground_159 ?_
      obtain ⟨X73, eX73⟩ : ∃ z : St, z = u2 X72 1 i9 (S4 1 i9) := ⟨_, rfl⟩
      refine g_last X (ws' := wL y cI cJ C N S4 Qk5 ++ [(q0, .inl (cJ, 12, .inr (.inl (X73 0)))), (q1, .inl (cJ, 12, .inr (.inl (X73 1)))), (q2, .inl (cJ, 12, .inr (.inl (X73 2))))]) 14 rfl (i9) rfl (by omega) (Nat.le_of_ble_eq_true rfl) dL_ground_160 (by rw [eX73]; first | done | (rfl)) ?_
      refine g_aload X 10 dL_ground_161 rfl ?_
      refine g_iload X 11 dL_ground_163 rfl ?_
      refine g_aload_n X 2 dL_ground_165 rfl rfl ?_
      refine g_iload X 11 dL_ground_166 rfl ?_
      refine g_lald X 2 rfl (i9) rfl (by omega) (Nat.le_of_ble_eq_true rfl) (v := S4 2 i9) rfl dL_ground_168 ?_
      obtain ⟨X74, eX74⟩ : ∃ z : St, z = u2 X73 2 i9 (S4 2 i9) := ⟨_, rfl⟩
      refine g_last X (ws' := wL y cI cJ C N S4 Qk5 ++ [(q0, .inl (cJ, 12, .inr (.inl (X74 0)))), (q1, .inl (cJ, 12, .inr (.inl (X74 1)))), (q2, .inl (cJ, 12, .inr (.inl (X74 2))))]) 15 rfl (i9) rfl (by omega) (Nat.le_of_ble_eq_true rfl) dL_ground_169 (by rw [eX74]; first | done | (rfl)) ?_
      refine g_iconst X (v := nI 0) dL_ground_170 (by decide +kernel) ?_
      refine g_istore X [(14, .int (nI 0)), (0, .ref (y 0)), (1, .ref (y 1)), (2, .ref (y 2)), (4, .ref (y 4)), (5, .ref (y 7)), (6, .ref (y 8)), (7, .ref (y 10)), (9, .ref (y 12)), (10, .ref q0), (11, .ref q1), (12, .ref q2), (13, .int (nI i9))] dL_ground_171 (Nat.le_of_ble_eq_true rfl) rfl ?_
      have L75 : ∀ (n77 i76 : Nat) (X78 : St), i76 + n77 = 4 → X78 = itr (sdX C S4 i9) X74 i76 → g_G p l e rm_L_ground s m args below meth c D A 23 3 36 Q (wL y cI cJ C N S4 Qk5 ++ [(q0, .inl (cJ, 12, .inr (.inl (X78 0)))), (q1, .inl (cJ, 12, .inr (.inl (X78 1)))), (q2, .inl (cJ, 12, .inr (.inl (X78 2))))]) [(0, .ref (y 0)), (1, .ref (y 1)), (2, .ref (y 2)), (4, .ref (y 4)), (5, .ref (y 7)), (6, .ref (y 8)), (7, .ref (y 10)), (9, .ref (y 12)), (10, .ref q0), (11, .ref q1), (12, .ref q2), (13, .int (nI i9)), (14, .int (nI i76))] 173 [] := by
        intro n77
        induction n77 with
        | zero =>
          intro i76 X78 hi79 eX78
          obtain rfl : i76 = 4 := by omega
          refine g_iload X 12 dL_ground_173 rfl ?_
          refine g_iconst X (v := nI 4) dL_ground_175 (by decide +kernel) ?_
          refine g_icN_ge X (a := 4) (b := 4) (tgt := 357) (by omega) (by omega) dL_ground_176 (by decide) (fun h80 => ?_) (fun h80 => absurd h80 (by omega))
          refine g_iinc X [(13, .int (nI (i9 + 1))), (0, .ref (y 0)), (1, .ref (y 1)), (2, .ref (y 2)), (4, .ref (y 4)), (5, .ref (y 7)), (6, .ref (y 8)), (7, .ref (y 10)), (9, .ref (y 12)), (10, .ref q0), (11, .ref q1), (12, .ref q2), (14, .int (nI 4))] (q := 11) (v := nI (i9 + 1)) dL_ground_357 rfl ((congrArg (fun z => nI (i9) + z) (show Int32.ofInt 1 = nI 1 by decide +kernel)).trans ((nI_add _ _).trans (congrArg nI (by omega)))) (Nat.le_of_ble_eq_true rfl) rfl ?_
          refine g_goto X (tgt := 136) dL_ground_360 (by decide) ?_
          refine g_lv _ [1, 2, 3, 4, 5, 6, 7, 8, 9, 10, 11, 0] rfl ?_
          exact ihL8 (i9 + 1) _ (by omega) (by show _ = gX C S4 i9 (itr (gX C S4) zS i9); rw [← eX11]; unfold gX; rw [eX78, eX74, eX73, eX72]; rfl)
        | succ n77 ihL75 =>
          intro i76 X78 hi79 eX78
          have hlti76 : i76 < 4 := by omega
          refine g_iload X 12 dL_ground_173 rfl ?_
          refine g_iconst X (v := nI 4) dL_ground_175 (by decide +kernel) ?_
          refine g_icN_ge X (a := i76) (b := 4) (tgt := 357) (by omega) (by omega) dL_ground_176 (by decide) (fun h81 => absurd h81 (by omega)) (fun h81 => ?_)
          refine g_iload X 11 dL_ground_179 rfl ?_
          refine g_iload X 12 dL_ground_181 rfl ?_
          refine g_callS X (As := [.int (nI i9), .int (nI i76)]) (rest := []) (m_L_beside l D cI cJ cZ i9 i76 (by omega) (by omega)) kM_L_10 kT_yL_beside kZ_RL kC_yL_beside hV_L_beside rfl rfl rfl ⟨Nat.le_of_ble_eq_true rfl, Nat.le_of_ble_eq_true rfl⟩ ⟨Nat.le_of_ble_eq_true rfl, Nat.le_of_ble_eq_true rfl⟩ (Nat.le_of_ble_eq_true rfl) dL_ground_183 rfl [] rfl rfl (g_kk1 (w2 := wL y cI cJ C N S4 Qk5 ++ [(q0, .inl (cJ, 12, .inr (.inl (X78 0)))), (q1, .inl (cJ, 12, .inr (.inl (X78 1)))), (q2, .inl (cJ, 12, .inr (.inl (X78 2))))]) ⟨[], [0, 1, 2, 3, 4, 5, 6, 7, 8, 9, 10, 11, 12, 13, 14, 15], [0, 1, 2, 3, 4, 5, 6, 7, 8, 9, 10, 11, 12, 13, 14, 15], ([0, 1, 2, 3, 4, 5, 6, 7, 8, 9, 10, 11, 12, 13, 14, 15].filterMap fun i => (wL y cI cJ C N S4 Qk5 ++ [(q0, .inl (cJ, 12, .inr (.inl (X78 0)))), (q1, .inl (cJ, 12, .inr (.inl (X78 1)))), (q2, .inl (cJ, 12, .inr (.inl (X78 2))))])[i]?), rfl, rfl, rfl, rfl, by decide, rfl, rfl⟩ ?_)
          by_cases hx : bsd i9 i76 = -1
          · --
            refine g_st (st' := [.int (-1)]) (by rw [hx]) ?_
            refine g_istore X [(15, .int (-1 : Int32)), (0, .ref (y 0)), (1, .ref (y 1)), (2, .ref (y 2)), (4, .ref (y 4)), (5, .ref (y 7)), (6, .ref (y 8)), (7, .ref (y 10)), (9, .ref (y 12)), (10, .ref q0), (11, .ref q1), (12, .ref q2), (13, .int (nI i9)), (14, .int (nI i76))] dL_ground_186 (Nat.le_of_ble_eq_true rfl) rfl ?_
            refine g_iload X 0 dL_ground_188 rfl ?_
            refine g_if_ge X (tgt := 197) dL_ground_190 (by decide) (fun h82 => absurd h82 (by decide)) (fun h82 => ?_)
            refine g_lconst X (v := 0) dL_ground_193 (by decide +kernel) ?_
            refine g_goto X (tgt := 206) dL_ground_194 (by decide) ?_
            refine g_lstore X [(16, .long (0 : Int64)), (15, .int (-1 : Int32)), (0, .ref (y 0)), (1, .ref (y 1)), (2, .ref (y 2)), (4, .ref (y 4)), (5, .ref (y 7)), (6, .ref (y 8)), (7, .ref (y 10)), (9, .ref (y 12)), (10, .ref q0), (11, .ref q1), (12, .ref q2), (13, .int (nI i9)), (14, .int (nI i76))] dL_ground_206 (Nat.le_of_ble_eq_true rfl) rfl ?_
            refine g_lload X 0 dL_ground_208 rfl ?_
            refine g_lconst X (v := 0) dL_ground_210 (by decide +kernel) ?_
            refine g_lj_le X (tgt := 220) (pc1 := 212) dL_ground_211 rfl dL_ground_212 (by decide) (fun h83 => ?_) (fun h83 => absurd (Int64.le_refl 0) h83)
            refine g_iload X 13 dL_ground_220 rfl ?_
            refine g_istore X [(18, .int (nI i9)), (16, .long (0 : Int64)), (15, .int (-1 : Int32)), (0, .ref (y 0)), (1, .ref (y 1)), (2, .ref (y 2)), (4, .ref (y 4)), (5, .ref (y 7)), (6, .ref (y 8)), (7, .ref (y 10)), (9, .ref (y 12)), (10, .ref q0), (11, .ref q1), (12, .ref q2), (13, .int (nI i9)), (14, .int (nI i76))] dL_ground_222 (Nat.le_of_ble_eq_true rfl) rfl ?_
            refine g_lload X 1 dL_ground_224 rfl ?_
            refine g_lconst X (v := 0) dL_ground_226 (by decide +kernel) ?_
            refine g_lj_ne X (tgt := 235) (pc1 := 228) dL_ground_227 rfl dL_ground_228 (by decide) (fun h84 => absurd rfl h84) (fun h84 => ?_)
            refine g_lconst X (v := 0) dL_ground_231 (by decide +kernel) ?_
            refine g_goto X (tgt := 265) dL_ground_232 (by decide) ?_
            have hs0 : sdL fwL C S4 i9 i76 = 0 := sd_n hx
            have hs1 : sdL fhL C S4 i9 i76 = 0 := sd_n hx
            have hs2 : sdL ftL C S4 i9 i76 = 0 := sd_n hx
            refine g_lstore X [(19, .long (0 : Int64)), (18, .int (nI i9)), (16, .long (0 : Int64)), (15, .int (-1 : Int32)), (0, .ref (y 0)), (1, .ref (y 1)), (2, .ref (y 2)), (4, .ref (y 4)), (5, .ref (y 7)), (6, .ref (y 8)), (7, .ref (y 10)), (9, .ref (y 12)), (10, .ref q0), (11, .ref q1), (12, .ref q2), (13, .int (nI i9)), (14, .int (nI i76))] dL_ground_265 (Nat.le_of_ble_eq_true rfl) rfl ?_
            refine g_lload X 2 dL_ground_267 rfl ?_
            refine g_lconst X (v := 0) dL_ground_269 (by decide +kernel) ?_
            refine g_lj_le X (tgt := 278) (pc1 := 271) dL_ground_270 rfl dL_ground_271 (by decide) (fun h85 => ?_) (fun h85 => absurd (Int64.le_refl 0) h85)
            refine g_ldc2 X kL_L_60 dL_ground_278 ?_
            refine g_lstore X [(21, .long (-1 : Int64)), (19, .long (0 : Int64)), (18, .int (nI i9)), (16, .long (0 : Int64)), (15, .int (-1 : Int32)), (0, .ref (y 0)), (1, .ref (y 1)), (2, .ref (y 2)), (4, .ref (y 4)), (5, .ref (y 7)), (6, .ref (y 8)), (7, .ref (y 10)), (9, .ref (y 12)), (10, .ref q0), (11, .ref q1), (12, .ref q2), (13, .int (nI i9)), (14, .int (nI i76))] dL_ground_281 (Nat.le_of_ble_eq_true rfl) rfl ?_
            refine g_aload X 13 dL_ground_283 rfl ?_
            refine g_iload X 16 dL_ground_285 rfl ?_
            refine g_dup2_11 X dL_ground_287 rfl rfl ?_
            refine g_lald X 13 rfl (i9) rfl (by omega) (Nat.le_of_ble_eq_true rfl) (v := X78 0 i9) rfl dL_ground_288 ?_
            refine g_lload X 0 dL_ground_289 rfl ?_
            refine g_lload X 1 dL_ground_291 rfl ?_
            refine g_lmul X (v := (0 : Int64)) dL_ground_293 (by decide) ?_
            refine g_ladd X (v := (X78 0 i9) + (0 : Int64)) dL_ground_294 rfl ?_
            obtain ⟨X86, eX86⟩ : ∃ z : St, z = u2 X78 0 i9 ((X78 0 i9) + (0 : Int64)) := ⟨_, rfl⟩
            refine g_last X (ws' := wL y cI cJ C N S4 Qk5 ++ [(q0, .inl (cJ, 12, .inr (.inl (X86 0)))), (q1, .inl (cJ, 12, .inr (.inl (X86 1)))), (q2, .inl (cJ, 12, .inr (.inl (X86 2))))]) 13 rfl (i9) rfl (by omega) (Nat.le_of_ble_eq_true rfl) dL_ground_295 (by rw [eX86]; first | done | (rfl)) ?_
            refine g_aload X 14 dL_ground_296 rfl ?_
            refine g_iload X 16 dL_ground_298 rfl ?_
            refine g_dup2_11 X dL_ground_300 rfl rfl ?_
            refine g_lald X 14 rfl (i9) rfl (by omega) (Nat.le_of_ble_eq_true rfl) (v := X86 1 i9) rfl dL_ground_301 ?_
            refine g_lload X 0 dL_ground_302 rfl ?_
            refine g_lload X 1 dL_ground_304 rfl ?_
            refine g_lmul X (v := (0 : Int64)) dL_ground_306 (by decide) ?_
            refine g_iload X 2 dL_ground_307 rfl ?_
            refine g_aload_n X 5 dL_ground_309 rfl rfl ?_
            refine g_aload_n X 6 dL_ground_310 rfl rfl ?_
            refine g_callS X (As := [.int (nI i9), .ref (y 0), .ref (y 1)]) (rest := [.long (0 : Int64), .long (X86 1 i9), .int (nI i9), .ref q1]) (m_L_hot l D cI cJ cZ y C N S4 Qk5 i9 (by omega) (hWK.ne (by omega))) kM_L_18 kT_yL_hot kZ_RL kC_yL_hot hV_L_hot rfl rfl rfl ⟨Nat.le_of_ble_eq_true rfl, Nat.le_of_ble_eq_true rfl⟩ ⟨Nat.le_of_ble_eq_true rfl, Nat.le_of_ble_eq_true rfl⟩ (Nat.le_of_ble_eq_true rfl) dL_ground_311 rfl [0, 1, 2, 3, 4, 5, 6, 7, 8, 9, 10, 11, 12] rfl rfl (g_kk1 (w2 := wL y cI cJ C N S4 Qk5 ++ [(q0, .inl (cJ, 12, .inr (.inl (X86 0)))), (q1, .inl (cJ, 12, .inr (.inl (X86 1)))), (q2, .inl (cJ, 12, .inr (.inl (X86 2))))]) ⟨[0, 1, 2, 3, 4, 5, 6, 7, 8, 9, 10, 11, 12], [13, 14, 15], [3, 4, 5, 6, 7, 8, 9, 10, 11, 12, 13, 14, 15, 0, 1, 2], ([13, 14, 15].filterMap fun i => (wL y cI cJ C N S4 Qk5 ++ [(q0, .inl (cJ, 12, .inr (.inl (X86 0)))), (q1, .inl (cJ, 12, .inr (.inl (X86 1)))), (q2, .inl (cJ, 12, .inr (.inl (X86 2))))])[i]?), rfl, rfl, rfl, rfl, by decide, rfl, rfl⟩ ?_)
            refine g_lmul X (v := (0 : Int64)) dL_ground_314 (by rw [Int64.zero_mul]) ?_
            refine g_ladd X (v := (X86 1 i9) + (0 : Int64)) dL_ground_315 rfl ?_
            obtain ⟨X87, eX87⟩ : ∃ z : St, z = u2 X86 1 i9 ((X86 1 i9) + (0 : Int64)) := ⟨_, rfl⟩
            refine g_last X (ws' := wL y cI cJ C N S4 Qk5 ++ [(q0, .inl (cJ, 12, .inr (.inl (X87 0)))), (q1, .inl (cJ, 12, .inr (.inl (X87 1)))), (q2, .inl (cJ, 12, .inr (.inl (X87 2))))]) 14 rfl (i9) rfl (by omega) (Nat.le_of_ble_eq_true rfl) dL_ground_316 (by rw [eX87]; first | done | (rfl)) ?_
            refine g_aload X 15 dL_ground_317 rfl ?_
            refine g_iload X 16 dL_ground_319 rfl ?_
            refine g_dup2_11 X dL_ground_321 rfl rfl ?_
            refine g_lald X 15 rfl (i9) rfl (by omega) (Nat.le_of_ble_eq_true rfl) (v := X87 2 i9) rfl dL_ground_322 ?_
            refine g_lload X 1 dL_ground_323 rfl ?_
            refine g_lconst X (v := 0) dL_ground_325 (by decide +kernel) ?_
            refine g_lj_ne X (tgt := 334) (pc1 := 327) dL_ground_326 rfl dL_ground_327 (by decide) (fun h88 => absurd rfl h88) (fun h88 => ?_)
            refine g_lconst X (v := 0) dL_ground_330 (by decide +kernel) ?_
            refine g_goto X (tgt := 349) dL_ground_331 (by decide) ?_
            refine g_ladd X (v := (X87 2 i9) + (0 : Int64)) dL_ground_349 rfl ?_
            obtain ⟨X89, eX89⟩ : ∃ z : St, z = u2 X87 2 i9 ((X87 2 i9) + (0 : Int64)) := ⟨_, rfl⟩
            refine g_last X (ws' := wL y cI cJ C N S4 Qk5 ++ [(q0, .inl (cJ, 12, .inr (.inl (X89 0)))), (q1, .inl (cJ, 12, .inr (.inl (X89 1)))), (q2, .inl (cJ, 12, .inr (.inl (X89 2))))]) 15 rfl (i9) rfl (by omega) (Nat.le_of_ble_eq_true rfl) dL_ground_350 (by rw [eX89]; first | done | (rfl)) ?_
            refine g_iinc X [(14, .int (nI (i76 + 1))), (21, .long (-1 : Int64)), (19, .long (0 : Int64)), (18, .int (nI i9)), (16, .long (0 : Int64)), (15, .int (-1 : Int32)), (0, .ref (y 0)), (1, .ref (y 1)), (2, .ref (y 2)), (4, .ref (y 4)), (5, .ref (y 7)), (6, .ref (y 8)), (7, .ref (y 10)), (9, .ref (y 12)), (10, .ref q0), (11, .ref q1), (12, .ref q2), (13, .int (nI i9))] (q := 17) (v := nI (i76 + 1)) dL_ground_351 rfl ((congrArg (fun z => nI (i76) + z) (show Int32.ofInt 1 = nI 1 by decide +kernel)).trans ((nI_add _ _).trans (congrArg nI (by omega)))) (Nat.le_of_ble_eq_true rfl) rfl ?_
            refine g_goto X (tgt := 173) dL_ground_354 (by decide) ?_
            refine g_lv _ [6, 7, 8, 9, 10, 11, 12, 13, 14, 15, 16, 17, 0] rfl ?_
            exact ihL75 (i76 + 1) _ (by omega) (by show _ = sdX C S4 i9 i76 (itr (sdX C S4 i9) _ i76); rw [← eX78]; unfold sdX; rw [hs0, hs1, hs2, eX89, eX87, eX86]; rfl)
          · --
            obtain ⟨o, ho, ho12⟩ := (bsd_neg i9 i76 (by omega) (by omega)).resolve_left hx
            refine g_st (st' := [.int (nI o)]) (by rw [ho]) ?_
            refine g_istore X [(15, .int (nI o)), (0, .ref (y 0)), (1, .ref (y 1)), (2, .ref (y 2)), (4, .ref (y 4)), (5, .ref (y 7)), (6, .ref (y 8)), (7, .ref (y 10)), (9, .ref (y 12)), (10, .ref q0), (11, .ref q1), (12, .ref q2), (13, .int (nI i9)), (14, .int (nI i76))] dL_ground_186 (Nat.le_of_ble_eq_true rfl) rfl ?_
            refine g_iload X 0 dL_ground_188 rfl ?_
            refine g_if_ge X (tgt := 197) dL_ground_190 (by decide) (fun h90 => ?_) (fun h90 => absurd (nI_nn (by omega)) h90)
            by_cases hcx : S4 0 o ≤ S4 0 i9
            · --
              refine g_aload_n X 1 dL_ground_197 rfl rfl ?_
              by_cases hcy : S4 0 i9 ≤ S4 0 o
              · --
                refine g_iload X 0 dL_ground_198 rfl ?_
                refine g_lald X 0 rfl (o) rfl (by omega) (Nat.le_of_ble_eq_true rfl) (v := S4 0 o) rfl dL_ground_200 ?_
                refine g_aload_n X 1 dL_ground_201 rfl rfl ?_
                refine g_iload X 12 dL_ground_202 rfl ?_
                refine g_lald X 0 rfl (i9) rfl (by omega) (Nat.le_of_ble_eq_true rfl) (v := S4 0 i9) rfl dL_ground_204 ?_
                refine g_lsub X (v := (S4 0 o) - (S4 0 i9)) dL_ground_205 rfl ?_
                have hap := ap_0 hcx hcy
                refine g_st (st' := [.long 0]) (by rw [hap]; rfl) ?_
                refine g_lstore X [(16, .long (0 : Int64)), (15, .int (nI o)), (0, .ref (y 0)), (1, .ref (y 1)), (2, .ref (y 2)), (4, .ref (y 4)), (5, .ref (y 7)), (6, .ref (y 8)), (7, .ref (y 10)), (9, .ref (y 12)), (10, .ref q0), (11, .ref q1), (12, .ref q2), (13, .int (nI i9)), (14, .int (nI i76))] dL_ground_206 (Nat.le_of_ble_eq_true rfl) rfl ?_
                refine g_lload X 0 dL_ground_208 rfl ?_
                refine g_lconst X (v := 0) dL_ground_210 (by decide +kernel) ?_
                refine g_lj_le X (tgt := 220) (pc1 := 212) dL_ground_211 rfl dL_ground_212 (by decide) (fun h91 => ?_) (fun h91 => absurd (Int64.le_refl 0) h91)
                refine g_iload X 13 dL_ground_220 rfl ?_
                refine g_istore X [(18, .int (nI i9)), (16, .long (0 : Int64)), (15, .int (nI o)), (0, .ref (y 0)), (1, .ref (y 1)), (2, .ref (y 2)), (4, .ref (y 4)), (5, .ref (y 7)), (6, .ref (y 8)), (7, .ref (y 10)), (9, .ref (y 12)), (10, .ref q0), (11, .ref q1), (12, .ref q2), (13, .int (nI i9)), (14, .int (nI i76))] dL_ground_222 (Nat.le_of_ble_eq_true rfl) rfl ?_
                refine g_lload X 1 dL_ground_224 rfl ?_
                refine g_lconst X (v := 0) dL_ground_226 (by decide +kernel) ?_
                refine g_lj_ne X (tgt := 235) (pc1 := 228) dL_ground_227 rfl dL_ground_228 (by decide) (fun h92 => absurd rfl h92) (fun h92 => ?_)
                refine g_lconst X (v := 0) dL_ground_231 (by decide +kernel) ?_
                refine g_goto X (tgt := 265) dL_ground_232 (by decide) ?_
                obtain ⟨hf0, hf1, hf2⟩ := f_A (wd := wdL C i9 i76) hcx hcy
                have hs0 : sdL fwL C S4 i9 i76 = 0 := (sd_y hx ho ho12).trans hf0
                have hs1 : sdL fhL C S4 i9 i76 = 0 := (sd_y hx ho ho12).trans hf1
                have hs2 : sdL ftL C S4 i9 i76 = 0 := (sd_y hx ho ho12).trans hf2
                refine g_lstore X [(19, .long (0 : Int64)), (18, .int (nI i9)), (16, .long (0 : Int64)), (15, .int (nI o)), (0, .ref (y 0)), (1, .ref (y 1)), (2, .ref (y 2)), (4, .ref (y 4)), (5, .ref (y 7)), (6, .ref (y 8)), (7, .ref (y 10)), (9, .ref (y 12)), (10, .ref q0), (11, .ref q1), (12, .ref q2), (13, .int (nI i9)), (14, .int (nI i76))] dL_ground_265 (Nat.le_of_ble_eq_true rfl) rfl ?_
                refine g_lload X 2 dL_ground_267 rfl ?_
                refine g_lconst X (v := 0) dL_ground_269 (by decide +kernel) ?_
                refine g_lj_le X (tgt := 278) (pc1 := 271) dL_ground_270 rfl dL_ground_271 (by decide) (fun h93 => ?_) (fun h93 => absurd (Int64.le_refl 0) h93)
                refine g_ldc2 X kL_L_60 dL_ground_278 ?_
                refine g_lstore X [(21, .long (-1 : Int64)), (19, .long (0 : Int64)), (18, .int (nI i9)), (16, .long (0 : Int64)), (15, .int (nI o)), (0, .ref (y 0)), (1, .ref (y 1)), (2, .ref (y 2)), (4, .ref (y 4)), (5, .ref (y 7)), (6, .ref (y 8)), (7, .ref (y 10)), (9, .ref (y 12)), (10, .ref q0), (11, .ref q1), (12, .ref q2), (13, .int (nI i9)), (14, .int (nI i76))] dL_ground_281 (Nat.le_of_ble_eq_true rfl) rfl ?_
                refine g_aload X 13 dL_ground_283 rfl ?_
                refine g_iload X 16 dL_ground_285 rfl ?_
                refine g_dup2_11 X dL_ground_287 rfl rfl ?_
                refine g_lald X 13 rfl (i9) rfl (by omega) (Nat.le_of_ble_eq_true rfl) (v := X78 0 i9) rfl dL_ground_288 ?_
                refine g_lload X 0 dL_ground_289 rfl ?_
                refine g_lload X 1 dL_ground_291 rfl ?_
                refine g_lmul X (v := (0 : Int64)) dL_ground_293 (by decide) ?_
                refine g_ladd X (v := (X78 0 i9) + (0 : Int64)) dL_ground_294 rfl ?_
                obtain ⟨X94, eX94⟩ : ∃ z : St, z = u2 X78 0 i9 ((X78 0 i9) + (0 : Int64)) := ⟨_, rfl⟩
                refine g_last X (ws' := wL y cI cJ C N S4 Qk5 ++ [(q0, .inl (cJ, 12, .inr (.inl (X94 0)))), (q1, .inl (cJ, 12, .inr (.inl (X94 1)))), (q2, .inl (cJ, 12, .inr (.inl (X94 2))))]) 13 rfl (i9) rfl (by omega) (Nat.le_of_ble_eq_true rfl) dL_ground_295 (by rw [eX94]; first | done | (rfl)) ?_
                refine g_aload X 14 dL_ground_296 rfl ?_
                refine g_iload X 16 dL_ground_298 rfl ?_
                refine g_dup2_11 X dL_ground_300 rfl rfl ?_
                refine g_lald X 14 rfl (i9) rfl (by omega) (Nat.le_of_ble_eq_true rfl) (v := X94 1 i9) rfl dL_ground_301 ?_
                refine g_lload X 0 dL_ground_302 rfl ?_
                refine g_lload X 1 dL_ground_304 rfl ?_
                refine g_lmul X (v := (0 : Int64)) dL_ground_306 (by decide) ?_
                refine g_iload X 2 dL_ground_307 rfl ?_
                refine g_aload_n X 5 dL_ground_309 rfl rfl ?_
                refine g_aload_n X 6 dL_ground_310 rfl rfl ?_
                refine g_callS X (As := [.int (nI i9), .ref (y 0), .ref (y 1)]) (rest := [.long (0 : Int64), .long (X94 1 i9), .int (nI i9), .ref q1]) (m_L_hot l D cI cJ cZ y C N S4 Qk5 i9 (by omega) (hWK.ne (by omega))) kM_L_18 kT_yL_hot kZ_RL kC_yL_hot hV_L_hot rfl rfl rfl ⟨Nat.le_of_ble_eq_true rfl, Nat.le_of_ble_eq_true rfl⟩ ⟨Nat.le_of_ble_eq_true rfl, Nat.le_of_ble_eq_true rfl⟩ (Nat.le_of_ble_eq_true rfl) dL_ground_311 rfl [0, 1, 2, 3, 4, 5, 6, 7, 8, 9, 10, 11, 12] rfl rfl (g_kk1 (w2 := wL y cI cJ C N S4 Qk5 ++ [(q0, .inl (cJ, 12, .inr (.inl (X94 0)))), (q1, .inl (cJ, 12, .inr (.inl (X94 1)))), (q2, .inl (cJ, 12, .inr (.inl (X94 2))))]) ⟨[0, 1, 2, 3, 4, 5, 6, 7, 8, 9, 10, 11, 12], [13, 14, 15], [3, 4, 5, 6, 7, 8, 9, 10, 11, 12, 13, 14, 15, 0, 1, 2], ([13, 14, 15].filterMap fun i => (wL y cI cJ C N S4 Qk5 ++ [(q0, .inl (cJ, 12, .inr (.inl (X94 0)))), (q1, .inl (cJ, 12, .inr (.inl (X94 1)))), (q2, .inl (cJ, 12, .inr (.inl (X94 2))))])[i]?), rfl, rfl, rfl, rfl, by decide, rfl, rfl⟩ ?_)
                refine g_lmul X (v := (0 : Int64)) dL_ground_314 (by rw [Int64.zero_mul]) ?_
                refine g_ladd X (v := (X94 1 i9) + (0 : Int64)) dL_ground_315 rfl ?_
                obtain ⟨X95, eX95⟩ : ∃ z : St, z = u2 X94 1 i9 ((X94 1 i9) + (0 : Int64)) := ⟨_, rfl⟩
                refine g_last X (ws' := wL y cI cJ C N S4 Qk5 ++ [(q0, .inl (cJ, 12, .inr (.inl (X95 0)))), (q1, .inl (cJ, 12, .inr (.inl (X95 1)))), (q2, .inl (cJ, 12, .inr (.inl (X95 2))))]) 14 rfl (i9) rfl (by omega) (Nat.le_of_ble_eq_true rfl) dL_ground_316 (by rw [eX95]; first | done | (rfl)) ?_
                refine g_aload X 15 dL_ground_317 rfl ?_
                refine g_iload X 16 dL_ground_319 rfl ?_
                refine g_dup2_11 X dL_ground_321 rfl rfl ?_
                refine g_lald X 15 rfl (i9) rfl (by omega) (Nat.le_of_ble_eq_true rfl) (v := X95 2 i9) rfl dL_ground_322 ?_
                refine g_lload X 1 dL_ground_323 rfl ?_
                refine g_lconst X (v := 0) dL_ground_325 (by decide +kernel) ?_
                refine g_lj_ne X (tgt := 334) (pc1 := 327) dL_ground_326 rfl dL_ground_327 (by decide) (fun h96 => absurd rfl h96) (fun h96 => ?_)
                refine g_lconst X (v := 0) dL_ground_330 (by decide +kernel) ?_
                refine g_goto X (tgt := 349) dL_ground_331 (by decide) ?_
                refine g_ladd X (v := (X95 2 i9) + (0 : Int64)) dL_ground_349 rfl ?_
                obtain ⟨X97, eX97⟩ : ∃ z : St, z = u2 X95 2 i9 ((X95 2 i9) + (0 : Int64)) := ⟨_, rfl⟩
                refine g_last X (ws' := wL y cI cJ C N S4 Qk5 ++ [(q0, .inl (cJ, 12, .inr (.inl (X97 0)))), (q1, .inl (cJ, 12, .inr (.inl (X97 1)))), (q2, .inl (cJ, 12, .inr (.inl (X97 2))))]) 15 rfl (i9) rfl (by omega) (Nat.le_of_ble_eq_true rfl) dL_ground_350 (by rw [eX97]; first | done | (rfl)) ?_
                refine g_iinc X [(14, .int (nI (i76 + 1))), (21, .long (-1 : Int64)), (19, .long (0 : Int64)), (18, .int (nI i9)), (16, .long (0 : Int64)), (15, .int (nI o)), (0, .ref (y 0)), (1, .ref (y 1)), (2, .ref (y 2)), (4, .ref (y 4)), (5, .ref (y 7)), (6, .ref (y 8)), (7, .ref (y 10)), (9, .ref (y 12)), (10, .ref q0), (11, .ref q1), (12, .ref q2), (13, .int (nI i9))] (q := 17) (v := nI (i76 + 1)) dL_ground_351 rfl ((congrArg (fun z => nI (i76) + z) (show Int32.ofInt 1 = nI 1 by decide +kernel)).trans ((nI_add _ _).trans (congrArg nI (by omega)))) (Nat.le_of_ble_eq_true rfl) rfl ?_
                refine g_goto X (tgt := 173) dL_ground_354 (by decide) ?_
                refine g_lv _ [6, 7, 8, 9, 10, 11, 12, 13, 14, 15, 16, 17, 0] rfl ?_
                exact ihL75 (i76 + 1) _ (by omega) (by show _ = sdX C S4 i9 i76 (itr (sdX C S4 i9) _ i76); rw [← eX78]; unfold sdX; rw [hs0, hs1, hs2, eX97, eX95, eX94]; rfl)
              · --
                refine g_iload X 0 dL_ground_198 rfl ?_
                refine g_lald X 0 rfl (o) rfl (by omega) (Nat.le_of_ble_eq_true rfl) (v := S4 0 o) rfl dL_ground_200 ?_
                refine g_aload_n X 1 dL_ground_201 rfl rfl ?_
                refine g_iload X 12 dL_ground_202 rfl ?_
                refine g_lald X 0 rfl (i9) rfl (by omega) (Nat.le_of_ble_eq_true rfl) (v := S4 0 i9) rfl dL_ground_204 ?_
                refine g_lsub X (v := (S4 0 o) - (S4 0 i9)) dL_ground_205 rfl ?_
                obtain ⟨hap1, hap0, hnz⟩ := ap_n ⟨(hWS _ ho12).1, (hWS _ ho12).2⟩ ⟨(hWS _ hlti9).1, (hWS _ hlti9).2⟩ hcx hcy
                refine g_lstore X [(16, .long ((S4 0 o) - (S4 0 i9))), (15, .int (nI o)), (0, .ref (y 0)), (1, .ref (y 1)), (2, .ref (y 2)), (4, .ref (y 4)), (5, .ref (y 7)), (6, .ref (y 8)), (7, .ref (y 10)), (9, .ref (y 12)), (10, .ref q0), (11, .ref q1), (12, .ref q2), (13, .int (nI i9)), (14, .int (nI i76))] dL_ground_206 (Nat.le_of_ble_eq_true rfl) rfl ?_
                refine g_lload X 0 dL_ground_208 rfl ?_
                refine g_lconst X (v := 0) dL_ground_210 (by decide +kernel) ?_
                refine g_lj_le X (tgt := 220) (pc1 := 212) dL_ground_211 rfl dL_ground_212 (by decide) (fun h98 => ?_) (fun h98 => absurd hap1 h98)
                refine g_iload X 13 dL_ground_220 rfl ?_
                refine g_istore X [(18, .int (nI i9)), (16, .long ((S4 0 o) - (S4 0 i9))), (15, .int (nI o)), (0, .ref (y 0)), (1, .ref (y 1)), (2, .ref (y 2)), (4, .ref (y 4)), (5, .ref (y 7)), (6, .ref (y 8)), (7, .ref (y 10)), (9, .ref (y 12)), (10, .ref q0), (11, .ref q1), (12, .ref q2), (13, .int (nI i9)), (14, .int (nI i76))] dL_ground_222 (Nat.le_of_ble_eq_true rfl) rfl ?_
                refine g_lload X 1 dL_ground_224 rfl ?_
                refine g_lconst X (v := 0) dL_ground_226 (by decide +kernel) ?_
                refine g_lj_ne X (tgt := 235) (pc1 := 228) dL_ground_227 rfl dL_ground_228 (by decide) (fun h99 => ?_) (fun h99 => absurd h99 hap0)
                refine g_lload X 1 dL_ground_235 rfl ?_
                refine g_lconst X (v := 0) dL_ground_237 (by decide +kernel) ?_
                refine g_lj_le X (tgt := 247) (pc1 := 239) dL_ground_238 rfl dL_ground_239 (by decide) (fun h100 => ?_) (fun h100 => absurd hap1 h100)
                refine g_lload X 1 dL_ground_247 rfl ?_
                refine g_lneg X (v := S4 0 i9 - S4 0 o) dL_ground_249 (by rw [Int64.neg_sub]) ?_
                refine g_iload X 14 dL_ground_250 rfl ?_
                refine g_iload X 15 dL_ground_252 rfl ?_
                refine g_aload X 6 dL_ground_254 rfl ?_
                refine g_callS X (As := [.int (nI i9), .int (nI i76), .ref (y 4)]) (rest := [.long (S4 0 i9 - S4 0 o)]) (m_L_width l D cI cJ cZ y C N S4 Qk5 i9 i76 (by omega) (by omega) hx) kM_L_56 kT_yL_width kZ_RL kC_yL_width hV_L_width rfl rfl rfl ⟨Nat.le_of_ble_eq_true rfl, Nat.le_of_ble_eq_true rfl⟩ ⟨Nat.le_of_ble_eq_true rfl, Nat.le_of_ble_eq_true rfl⟩ (Nat.le_of_ble_eq_true rfl) dL_ground_256 rfl [0, 1, 2, 3, 4, 5, 6, 7, 8, 9, 10, 11, 12] rfl rfl (g_kk1 (w2 := wL y cI cJ C N S4 Qk5 ++ [(q0, .inl (cJ, 12, .inr (.inl (X78 0)))), (q1, .inl (cJ, 12, .inr (.inl (X78 1)))), (q2, .inl (cJ, 12, .inr (.inl (X78 2))))]) ⟨[0, 1, 2, 3, 4, 5, 6, 7, 8, 9, 10, 11, 12], [13, 14, 15], [3, 4, 5, 6, 7, 8, 9, 10, 11, 12, 13, 14, 15, 0, 1, 2], ([13, 14, 15].filterMap fun i => (wL y cI cJ C N S4 Qk5 ++ [(q0, .inl (cJ, 12, .inr (.inl (X78 0)))), (q1, .inl (cJ, 12, .inr (.inl (X78 1)))), (q2, .inl (cJ, 12, .inr (.inl (X78 2))))])[i]?), rfl, rfl, rfl, rfl, by decide, rfl, rfl⟩ ?_)
                refine g_i2l X (v := (wdL C i9 i76).toInt64) dL_ground_259 rfl ?_
                refine g_lmul X (v := (S4 0 i9 - S4 0 o) * ((wdL C i9 i76).toInt64)) dL_ground_260 rfl ?_
                refine g_ldc2 X kL_L_54 dL_ground_261 ?_
                refine g_ldiv X (v := ((S4 0 i9 - S4 0 o) * ((wdL C i9 i76).toInt64)) / (1000 : Int64)) dL_ground_264 (by decide +kernel) rfl ?_
                obtain ⟨x101, ex101⟩ : ∃ z : Int64, z = ((S4 0 i9 - S4 0 o) * ((wdL C i9 i76).toInt64)) / (1000 : Int64) := ⟨_, rfl⟩
                refine g_st (st' := [.long x101]) (by rw [ex101]; first | done | rfl) ?_
                obtain ⟨hf0, hf1, hf2⟩ := f_B (wd := wdL C i9 i76) hcx hcy
                rw [← ex101] at hf0 hf1 hf2
                have hs0 : sdL fwL C S4 i9 i76 = _ := (sd_y hx ho ho12).trans hf0
                have hs1 : sdL fhL C S4 i9 i76 = _ := (sd_y hx ho ho12).trans hf1
                have hs2 : sdL ftL C S4 i9 i76 = _ := (sd_y hx ho ho12).trans hf2
                refine g_lstore X [(19, .long x101), (18, .int (nI i9)), (16, .long ((S4 0 o) - (S4 0 i9))), (15, .int (nI o)), (0, .ref (y 0)), (1, .ref (y 1)), (2, .ref (y 2)), (4, .ref (y 4)), (5, .ref (y 7)), (6, .ref (y 8)), (7, .ref (y 10)), (9, .ref (y 12)), (10, .ref q0), (11, .ref q1), (12, .ref q2), (13, .int (nI i9)), (14, .int (nI i76))] dL_ground_265 (Nat.le_of_ble_eq_true rfl) rfl ?_
                refine g_lload X 2 dL_ground_267 rfl ?_
                refine g_lconst X (v := 0) dL_ground_269 (by decide +kernel) ?_
                refine g_lj_le X (tgt := 278) (pc1 := 271) dL_ground_270 rfl dL_ground_271 (by decide) (fun h102 => ?_) (fun h102 => absurd hap1 h102)
                refine g_ldc2 X kL_L_60 dL_ground_278 ?_
                refine g_lstore X [(21, .long (-1 : Int64)), (19, .long x101), (18, .int (nI i9)), (16, .long ((S4 0 o) - (S4 0 i9))), (15, .int (nI o)), (0, .ref (y 0)), (1, .ref (y 1)), (2, .ref (y 2)), (4, .ref (y 4)), (5, .ref (y 7)), (6, .ref (y 8)), (7, .ref (y 10)), (9, .ref (y 12)), (10, .ref q0), (11, .ref q1), (12, .ref q2), (13, .int (nI i9)), (14, .int (nI i76))] dL_ground_281 (Nat.le_of_ble_eq_true rfl) rfl ?_
                refine g_aload X 13 dL_ground_283 rfl ?_
                refine g_iload X 16 dL_ground_285 rfl ?_
                refine g_dup2_11 X dL_ground_287 rfl rfl ?_
                refine g_lald X 13 rfl (i9) rfl (by omega) (Nat.le_of_ble_eq_true rfl) (v := X78 0 i9) rfl dL_ground_288 ?_
                refine g_lload X 0 dL_ground_289 rfl ?_
                refine g_lload X 1 dL_ground_291 rfl ?_
                refine g_lmul X (v := -x101) dL_ground_293 (neg1_mul _) ?_
                refine g_ladd X (v := (X78 0 i9) + (-x101)) dL_ground_294 rfl ?_
                obtain ⟨X103, eX103⟩ : ∃ z : St, z = u2 X78 0 i9 ((X78 0 i9) + (-x101)) := ⟨_, rfl⟩
                refine g_last X (ws' := wL y cI cJ C N S4 Qk5 ++ [(q0, .inl (cJ, 12, .inr (.inl (X103 0)))), (q1, .inl (cJ, 12, .inr (.inl (X103 1)))), (q2, .inl (cJ, 12, .inr (.inl (X103 2))))]) 13 rfl (i9) rfl (by omega) (Nat.le_of_ble_eq_true rfl) dL_ground_295 (by rw [eX103]; first | done | (rfl)) ?_
                refine g_aload X 14 dL_ground_296 rfl ?_
                refine g_iload X 16 dL_ground_298 rfl ?_
                refine g_dup2_11 X dL_ground_300 rfl rfl ?_
                refine g_lald X 14 rfl (i9) rfl (by omega) (Nat.le_of_ble_eq_true rfl) (v := X103 1 i9) rfl dL_ground_301 ?_
                refine g_lload X 0 dL_ground_302 rfl ?_
                refine g_lload X 1 dL_ground_304 rfl ?_
                refine g_lmul X (v := -x101) dL_ground_306 (neg1_mul _) ?_
                refine g_iload X 2 dL_ground_307 rfl ?_
                refine g_aload_n X 5 dL_ground_309 rfl rfl ?_
                refine g_aload_n X 6 dL_ground_310 rfl rfl ?_
                refine g_callS X (As := [.int (nI i9), .ref (y 0), .ref (y 1)]) (rest := [.long (-x101), .long (X103 1 i9), .int (nI i9), .ref q1]) (m_L_hot l D cI cJ cZ y C N S4 Qk5 i9 (by omega) (hWK.ne (by omega))) kM_L_18 kT_yL_hot kZ_RL kC_yL_hot hV_L_hot rfl rfl rfl ⟨Nat.le_of_ble_eq_true rfl, Nat.le_of_ble_eq_true rfl⟩ ⟨Nat.le_of_ble_eq_true rfl, Nat.le_of_ble_eq_true rfl⟩ (Nat.le_of_ble_eq_true rfl) dL_ground_311 rfl [0, 1, 2, 3, 4, 5, 6, 7, 8, 9, 10, 11, 12] rfl rfl (g_kk1 (w2 := wL y cI cJ C N S4 Qk5 ++ [(q0, .inl (cJ, 12, .inr (.inl (X103 0)))), (q1, .inl (cJ, 12, .inr (.inl (X103 1)))), (q2, .inl (cJ, 12, .inr (.inl (X103 2))))]) ⟨[0, 1, 2, 3, 4, 5, 6, 7, 8, 9, 10, 11, 12], [13, 14, 15], [3, 4, 5, 6, 7, 8, 9, 10, 11, 12, 13, 14, 15, 0, 1, 2], ([13, 14, 15].filterMap fun i => (wL y cI cJ C N S4 Qk5 ++ [(q0, .inl (cJ, 12, .inr (.inl (X103 0)))), (q1, .inl (cJ, 12, .inr (.inl (X103 1)))), (q2, .inl (cJ, 12, .inr (.inl (X103 2))))])[i]?), rfl, rfl, rfl, rfl, by decide, rfl, rfl⟩ ?_)
                refine g_lmul X (v := -(x101 * deg S4 i9)) dL_ground_314 (by rw [Int64.neg_mul]) ?_
                refine g_ladd X (v := (X103 1 i9) + (-(x101 * deg S4 i9))) dL_ground_315 rfl ?_
                obtain ⟨X104, eX104⟩ : ∃ z : St, z = u2 X103 1 i9 ((X103 1 i9) + (-(x101 * deg S4 i9))) := ⟨_, rfl⟩
                refine g_last X (ws' := wL y cI cJ C N S4 Qk5 ++ [(q0, .inl (cJ, 12, .inr (.inl (X104 0)))), (q1, .inl (cJ, 12, .inr (.inl (X104 1)))), (q2, .inl (cJ, 12, .inr (.inl (X104 2))))]) 14 rfl (i9) rfl (by omega) (Nat.le_of_ble_eq_true rfl) dL_ground_316 (by rw [eX104]; first | done | (rfl)) ?_
                refine g_aload X 15 dL_ground_317 rfl ?_
                refine g_iload X 16 dL_ground_319 rfl ?_
                refine g_dup2_11 X dL_ground_321 rfl rfl ?_
                refine g_lald X 15 rfl (i9) rfl (by omega) (Nat.le_of_ble_eq_true rfl) (v := X104 2 i9) rfl dL_ground_322 ?_
                refine g_lload X 1 dL_ground_323 rfl ?_
                refine g_lconst X (v := 0) dL_ground_325 (by decide +kernel) ?_
                have J107 : ∀ (v106 : Int64), v106 = (if ¬ x101 = (0 : Int64) then -(((S4 2 i9) * x101) / (S4 0 i9)) else (0 : Int64)) → g_G p l e rm_L_ground s m args below meth c D A 23 3 36 Q (wL y cI cJ C N S4 Qk5 ++ [(q0, .inl (cJ, 12, .inr (.inl (X104 0)))), (q1, .inl (cJ, 12, .inr (.inl (X104 1)))), (q2, .inl (cJ, 12, .inr (.inl (X104 2))))]) [(0, .ref (y 0)), (1, .ref (y 1)), (2, .ref (y 2)), (4, .ref (y 4)), (5, .ref (y 7)), (6, .ref (y 8)), (7, .ref (y 10)), (9, .ref (y 12)), (10, .ref q0), (11, .ref q1), (12, .ref q2), (13, .int (nI i9)), (14, .int (nI i76))] 349 [.long v106, .long (X104 2 i9), .int (nI i9), .ref q2] := by
                  intro v106 ev106
                  replace ev106 := ev106.trans (show _ = -(S4 2 i9 * x101 / S4 0 i9) from ft_n)
                  refine g_ladd X (v := (X104 2 i9) + v106) dL_ground_349 rfl ?_
                  obtain ⟨X108, eX108⟩ : ∃ z : St, z = u2 X104 2 i9 ((X104 2 i9) + v106) := ⟨_, rfl⟩
                  refine g_last X (ws' := wL y cI cJ C N S4 Qk5 ++ [(q0, .inl (cJ, 12, .inr (.inl (X108 0)))), (q1, .inl (cJ, 12, .inr (.inl (X108 1)))), (q2, .inl (cJ, 12, .inr (.inl (X108 2))))]) 15 rfl (i9) rfl (by omega) (Nat.le_of_ble_eq_true rfl) dL_ground_350 (by rw [eX108]; first | done | (rfl)) ?_
                  refine g_iinc X [(14, .int (nI (i76 + 1))), (0, .ref (y 0)), (1, .ref (y 1)), (2, .ref (y 2)), (4, .ref (y 4)), (5, .ref (y 7)), (6, .ref (y 8)), (7, .ref (y 10)), (9, .ref (y 12)), (10, .ref q0), (11, .ref q1), (12, .ref q2), (13, .int (nI i9))] (q := 12) (v := nI (i76 + 1)) dL_ground_351 rfl ((congrArg (fun z => nI (i76) + z) (show Int32.ofInt 1 = nI 1 by decide +kernel)).trans ((nI_add _ _).trans (congrArg nI (by omega)))) (Nat.le_of_ble_eq_true rfl) rfl ?_
                  refine g_goto X (tgt := 173) dL_ground_354 (by decide) ?_
                  refine g_lv _ [1, 2, 3, 4, 5, 6, 7, 8, 9, 10, 11, 12, 0] rfl ?_
                  exact ihL75 (i76 + 1) _ (by omega) (by show _ = sdX C S4 i9 i76 (itr (sdX C S4 i9) _ i76); rw [← eX78]; unfold sdX; rw [hs0, hs1, hs2, eX108, eX104, eX103]; (try rw [ev106]); rfl)
                refine g_lj_ne X (tgt := 334) (pc1 := 327) dL_ground_326 rfl dL_ground_327 (by decide) (fun h105 => ?_) (fun h105 => ?_)
                · --
                  refine g_lload X 0 dL_ground_334 rfl ?_
                  refine g_aload_n X 7 dL_ground_336 rfl rfl ?_
                  refine g_iload X 2 dL_ground_337 rfl ?_
                  refine g_lald X 2 rfl (i9) rfl (by omega) (Nat.le_of_ble_eq_true rfl) (v := S4 2 i9) rfl dL_ground_339 ?_
                  refine g_lload X 1 dL_ground_340 rfl ?_
                  refine g_lmul X (v := (S4 2 i9) * x101) dL_ground_342 rfl ?_
                  refine g_aload_n X 5 dL_ground_343 rfl rfl ?_
                  refine g_iload X 2 dL_ground_344 rfl ?_
                  refine g_lald X 0 rfl (i9) rfl (by omega) (Nat.le_of_ble_eq_true rfl) (v := S4 0 i9) rfl dL_ground_346 ?_
                  refine g_ldiv X (v := ((S4 2 i9) * x101) / (S4 0 i9)) dL_ground_347 hnz rfl ?_
                  refine g_lmul X (v := -(((S4 2 i9) * x101) / (S4 0 i9))) dL_ground_348 (neg1_mul _) ?_
                  refine g_lv _ [5, 6, 7, 8, 9, 10, 11, 12, 13, 14, 15, 16, 17] rfl ?_
                  exact J107 _ (by rw [if_pos (c := ¬ x101 = (0 : Int64)) h105])
                · --
                  refine g_lconst X (v := 0) dL_ground_330 (by decide +kernel) ?_
                  refine g_goto X (tgt := 349) dL_ground_331 (by decide) ?_
                  refine g_lv _ [5, 6, 7, 8, 9, 10, 11, 12, 13, 14, 15, 16, 17] rfl ?_
                  exact J107 _ (by rw [if_neg (c := ¬ x101 = (0 : Int64)) (fun z => z h105)])
            · --
              refine g_aload_n X 1 dL_ground_197 rfl rfl ?_
              refine g_iload X 0 dL_ground_198 rfl ?_
              refine g_lald X 0 rfl (o) rfl (by omega) (Nat.le_of_ble_eq_true rfl) (v := S4 0 o) rfl dL_ground_200 ?_
              refine g_aload_n X 1 dL_ground_201 rfl rfl ?_
              refine g_iload X 12 dL_ground_202 rfl ?_
              refine g_lald X 0 rfl (i9) rfl (by omega) (Nat.le_of_ble_eq_true rfl) (v := S4 0 i9) rfl dL_ground_204 ?_
              refine g_lsub X (v := (S4 0 o) - (S4 0 i9)) dL_ground_205 rfl ?_
              obtain ⟨hap1, hap0, hnz⟩ := ap_p ⟨(hWS _ ho12).1, (hWS _ ho12).2⟩ ⟨(hWS _ hlti9).1, (hWS _ hlti9).2⟩ hcx
              refine g_lstore X [(16, .long ((S4 0 o) - (S4 0 i9))), (15, .int (nI o)), (0, .ref (y 0)), (1, .ref (y 1)), (2, .ref (y 2)), (4, .ref (y 4)), (5, .ref (y 7)), (6, .ref (y 8)), (7, .ref (y 10)), (9, .ref (y 12)), (10, .ref q0), (11, .ref q1), (12, .ref q2), (13, .int (nI i9)), (14, .int (nI i76))] dL_ground_206 (Nat.le_of_ble_eq_true rfl) rfl ?_
              refine g_lload X 0 dL_ground_208 rfl ?_
              refine g_lconst X (v := 0) dL_ground_210 (by decide +kernel) ?_
              refine g_lj_le X (tgt := 220) (pc1 := 212) dL_ground_211 rfl dL_ground_212 (by decide) (fun h109 => absurd h109 hap1) (fun h109 => ?_)
              refine g_iload X 1 dL_ground_215 rfl ?_
              refine g_goto X (tgt := 222) dL_ground_217 (by decide) ?_
              refine g_istore X [(18, .int (nI o)), (16, .long ((S4 0 o) - (S4 0 i9))), (15, .int (nI o)), (0, .ref (y 0)), (1, .ref (y 1)), (2, .ref (y 2)), (4, .ref (y 4)), (5, .ref (y 7)), (6, .ref (y 8)), (7, .ref (y 10)), (9, .ref (y 12)), (10, .ref q0), (11, .ref q1), (12, .ref q2), (13, .int (nI i9)), (14, .int (nI i76))] dL_ground_222 (Nat.le_of_ble_eq_true rfl) rfl ?_
              refine g_lload X 1 dL_ground_224 rfl ?_
              refine g_lconst X (v := 0) dL_ground_226 (by decide +kernel) ?_
              refine g_lj_ne X (tgt := 235) (pc1 := 228) dL_ground_227 rfl dL_ground_228 (by decide) (fun h110 => ?_) (fun h110 => absurd h110 hap0)
              refine g_lload X 1 dL_ground_235 rfl ?_
              refine g_lconst X (v := 0) dL_ground_237 (by decide +kernel) ?_
              refine g_lj_le X (tgt := 247) (pc1 := 239) dL_ground_238 rfl dL_ground_239 (by decide) (fun h111 => absurd h111 hap1) (fun h111 => ?_)
              refine g_lload X 1 dL_ground_242 rfl ?_
              refine g_goto X (tgt := 250) dL_ground_244 (by decide) ?_
              refine g_iload X 14 dL_ground_250 rfl ?_
              refine g_iload X 15 dL_ground_252 rfl ?_
              refine g_aload X 6 dL_ground_254 rfl ?_
              refine g_callS X (As := [.int (nI i9), .int (nI i76), .ref (y 4)]) (rest := [.long ((S4 0 o) - (S4 0 i9))]) (m_L_width l D cI cJ cZ y C N S4 Qk5 i9 i76 (by omega) (by omega) hx) kM_L_56 kT_yL_width kZ_RL kC_yL_width hV_L_width rfl rfl rfl ⟨Nat.le_of_ble_eq_true rfl, Nat.le_of_ble_eq_true rfl⟩ ⟨Nat.le_of_ble_eq_true rfl, Nat.le_of_ble_eq_true rfl⟩ (Nat.le_of_ble_eq_true rfl) dL_ground_256 rfl [0, 1, 2, 3, 4, 5, 6, 7, 8, 9, 10, 11, 12] rfl rfl (g_kk1 (w2 := wL y cI cJ C N S4 Qk5 ++ [(q0, .inl (cJ, 12, .inr (.inl (X78 0)))), (q1, .inl (cJ, 12, .inr (.inl (X78 1)))), (q2, .inl (cJ, 12, .inr (.inl (X78 2))))]) ⟨[0, 1, 2, 3, 4, 5, 6, 7, 8, 9, 10, 11, 12], [13, 14, 15], [3, 4, 5, 6, 7, 8, 9, 10, 11, 12, 13, 14, 15, 0, 1, 2], ([13, 14, 15].filterMap fun i => (wL y cI cJ C N S4 Qk5 ++ [(q0, .inl (cJ, 12, .inr (.inl (X78 0)))), (q1, .inl (cJ, 12, .inr (.inl (X78 1)))), (q2, .inl (cJ, 12, .inr (.inl (X78 2))))])[i]?), rfl, rfl, rfl, rfl, by decide, rfl, rfl⟩ ?_)
              refine g_i2l X (v := (wdL C i9 i76).toInt64) dL_ground_259 rfl ?_
              refine g_lmul X (v := ((S4 0 o) - (S4 0 i9)) * ((wdL C i9 i76).toInt64)) dL_ground_260 rfl ?_
              refine g_ldc2 X kL_L_54 dL_ground_261 ?_
              refine g_ldiv X (v := (((S4 0 o) - (S4 0 i9)) * ((wdL C i9 i76).toInt64)) / (1000 : Int64)) dL_ground_264 (by decide +kernel) rfl ?_
              obtain ⟨x112, ex112⟩ : ∃ z : Int64, z = (((S4 0 o) - (S4 0 i9)) * ((wdL C i9 i76).toInt64)) / (1000 : Int64) := ⟨_, rfl⟩
              refine g_st (st' := [.long x112]) (by rw [ex112]; first | done | rfl) ?_
              obtain ⟨hf0, hf1, hf2⟩ := f_C (wd := wdL C i9 i76) hcx
              rw [← ex112] at hf0 hf1 hf2
              have hs0 : sdL fwL C S4 i9 i76 = _ := (sd_y hx ho ho12).trans hf0
              have hs1 : sdL fhL C S4 i9 i76 = _ := (sd_y hx ho ho12).trans hf1
              have hs2 : sdL ftL C S4 i9 i76 = _ := (sd_y hx ho ho12).trans hf2
              refine g_lstore X [(19, .long x112), (18, .int (nI o)), (16, .long ((S4 0 o) - (S4 0 i9))), (15, .int (nI o)), (0, .ref (y 0)), (1, .ref (y 1)), (2, .ref (y 2)), (4, .ref (y 4)), (5, .ref (y 7)), (6, .ref (y 8)), (7, .ref (y 10)), (9, .ref (y 12)), (10, .ref q0), (11, .ref q1), (12, .ref q2), (13, .int (nI i9)), (14, .int (nI i76))] dL_ground_265 (Nat.le_of_ble_eq_true rfl) rfl ?_
              refine g_lload X 2 dL_ground_267 rfl ?_
              refine g_lconst X (v := 0) dL_ground_269 (by decide +kernel) ?_
              refine g_lj_le X (tgt := 278) (pc1 := 271) dL_ground_270 rfl dL_ground_271 (by decide) (fun h113 => absurd h113 hap1) (fun h113 => ?_)
              refine g_lconst X (v := 1) dL_ground_274 (by decide +kernel) ?_
              refine g_goto X (tgt := 281) dL_ground_275 (by decide) ?_
              refine g_lstore X [(21, .long (1 : Int64)), (19, .long x112), (18, .int (nI o)), (16, .long ((S4 0 o) - (S4 0 i9))), (15, .int (nI o)), (0, .ref (y 0)), (1, .ref (y 1)), (2, .ref (y 2)), (4, .ref (y 4)), (5, .ref (y 7)), (6, .ref (y 8)), (7, .ref (y 10)), (9, .ref (y 12)), (10, .ref q0), (11, .ref q1), (12, .ref q2), (13, .int (nI i9)), (14, .int (nI i76))] dL_ground_281 (Nat.le_of_ble_eq_true rfl) rfl ?_
              refine g_aload X 13 dL_ground_283 rfl ?_
              refine g_iload X 16 dL_ground_285 rfl ?_
              refine g_dup2_11 X dL_ground_287 rfl rfl ?_
              refine g_lald X 13 rfl (i9) rfl (by omega) (Nat.le_of_ble_eq_true rfl) (v := X78 0 i9) rfl dL_ground_288 ?_
              refine g_lload X 0 dL_ground_289 rfl ?_
              refine g_lload X 1 dL_ground_291 rfl ?_
              refine g_lmul X (v := x112) dL_ground_293 (by rw [Int64.one_mul]) ?_
              refine g_ladd X (v := (X78 0 i9) + x112) dL_ground_294 rfl ?_
              obtain ⟨X114, eX114⟩ : ∃ z : St, z = u2 X78 0 i9 ((X78 0 i9) + x112) := ⟨_, rfl⟩
              refine g_last X (ws' := wL y cI cJ C N S4 Qk5 ++ [(q0, .inl (cJ, 12, .inr (.inl (X114 0)))), (q1, .inl (cJ, 12, .inr (.inl (X114 1)))), (q2, .inl (cJ, 12, .inr (.inl (X114 2))))]) 13 rfl (i9) rfl (by omega) (Nat.le_of_ble_eq_true rfl) dL_ground_295 (by rw [eX114]; first | done | (rfl)) ?_
              refine g_aload X 14 dL_ground_296 rfl ?_
              refine g_iload X 16 dL_ground_298 rfl ?_
              refine g_dup2_11 X dL_ground_300 rfl rfl ?_
              refine g_lald X 14 rfl (i9) rfl (by omega) (Nat.le_of_ble_eq_true rfl) (v := X114 1 i9) rfl dL_ground_301 ?_
              refine g_lload X 0 dL_ground_302 rfl ?_
              refine g_lload X 1 dL_ground_304 rfl ?_
              refine g_lmul X (v := x112) dL_ground_306 (by rw [Int64.one_mul]) ?_
              refine g_iload X 2 dL_ground_307 rfl ?_
              refine g_aload_n X 5 dL_ground_309 rfl rfl ?_
              refine g_aload_n X 6 dL_ground_310 rfl rfl ?_
              refine g_callS X (As := [.int (nI o), .ref (y 0), .ref (y 1)]) (rest := [.long x112, .long (X114 1 i9), .int (nI i9), .ref q1]) (m_L_hot l D cI cJ cZ y C N S4 Qk5 o (by omega) (hWK.ne (by omega))) kM_L_18 kT_yL_hot kZ_RL kC_yL_hot hV_L_hot rfl rfl rfl ⟨Nat.le_of_ble_eq_true rfl, Nat.le_of_ble_eq_true rfl⟩ ⟨Nat.le_of_ble_eq_true rfl, Nat.le_of_ble_eq_true rfl⟩ (Nat.le_of_ble_eq_true rfl) dL_ground_311 rfl [0, 1, 2, 3, 4, 5, 6, 7, 8, 9, 10, 11, 12] rfl rfl (g_kk1 (w2 := wL y cI cJ C N S4 Qk5 ++ [(q0, .inl (cJ, 12, .inr (.inl (X114 0)))), (q1, .inl (cJ, 12, .inr (.inl (X114 1)))), (q2, .inl (cJ, 12, .inr (.inl (X114 2))))]) ⟨[0, 1, 2, 3, 4, 5, 6, 7, 8, 9, 10, 11, 12], [13, 14, 15], [3, 4, 5, 6, 7, 8, 9, 10, 11, 12, 13, 14, 15, 0, 1, 2], ([13, 14, 15].filterMap fun i => (wL y cI cJ C N S4 Qk5 ++ [(q0, .inl (cJ, 12, .inr (.inl (X114 0)))), (q1, .inl (cJ, 12, .inr (.inl (X114 1)))), (q2, .inl (cJ, 12, .inr (.inl (X114 2))))])[i]?), rfl, rfl, rfl, rfl, by decide, rfl, rfl⟩ ?_)
              refine g_lmul X (v := x112 * (deg S4 o)) dL_ground_314 rfl ?_
              refine g_ladd X (v := (X114 1 i9) + (x112 * (deg S4 o))) dL_ground_315 rfl ?_
              obtain ⟨X115, eX115⟩ : ∃ z : St, z = u2 X114 1 i9 ((X114 1 i9) + (x112 * (deg S4 o))) := ⟨_, rfl⟩
              refine g_last X (ws' := wL y cI cJ C N S4 Qk5 ++ [(q0, .inl (cJ, 12, .inr (.inl (X115 0)))), (q1, .inl (cJ, 12, .inr (.inl (X115 1)))), (q2, .inl (cJ, 12, .inr (.inl (X115 2))))]) 14 rfl (i9) rfl (by omega) (Nat.le_of_ble_eq_true rfl) dL_ground_316 (by rw [eX115]; first | done | (rfl)) ?_
              refine g_aload X 15 dL_ground_317 rfl ?_
              refine g_iload X 16 dL_ground_319 rfl ?_
              refine g_dup2_11 X dL_ground_321 rfl rfl ?_
              refine g_lald X 15 rfl (i9) rfl (by omega) (Nat.le_of_ble_eq_true rfl) (v := X115 2 i9) rfl dL_ground_322 ?_
              refine g_lload X 1 dL_ground_323 rfl ?_
              refine g_lconst X (v := 0) dL_ground_325 (by decide +kernel) ?_
              have J118 : ∀ (v117 : Int64), v117 = (if ¬ x112 = (0 : Int64) then ((S4 2 o) * x112) / (S4 0 o) else (0 : Int64)) → g_G p l e rm_L_ground s m args below meth c D A 23 3 36 Q (wL y cI cJ C N S4 Qk5 ++ [(q0, .inl (cJ, 12, .inr (.inl (X115 0)))), (q1, .inl (cJ, 12, .inr (.inl (X115 1)))), (q2, .inl (cJ, 12, .inr (.inl (X115 2))))]) [(0, .ref (y 0)), (1, .ref (y 1)), (2, .ref (y 2)), (4, .ref (y 4)), (5, .ref (y 7)), (6, .ref (y 8)), (7, .ref (y 10)), (9, .ref (y 12)), (10, .ref q0), (11, .ref q1), (12, .ref q2), (13, .int (nI i9)), (14, .int (nI i76))] 349 [.long v117, .long (X115 2 i9), .int (nI i9), .ref q2] := by
                intro v117 ev117
                replace ev117 := ev117.trans (show _ = S4 2 o * x112 / S4 0 o from ft_p)
                refine g_ladd X (v := (X115 2 i9) + v117) dL_ground_349 rfl ?_
                obtain ⟨X119, eX119⟩ : ∃ z : St, z = u2 X115 2 i9 ((X115 2 i9) + v117) := ⟨_, rfl⟩
                refine g_last X (ws' := wL y cI cJ C N S4 Qk5 ++ [(q0, .inl (cJ, 12, .inr (.inl (X119 0)))), (q1, .inl (cJ, 12, .inr (.inl (X119 1)))), (q2, .inl (cJ, 12, .inr (.inl (X119 2))))]) 15 rfl (i9) rfl (by omega) (Nat.le_of_ble_eq_true rfl) dL_ground_350 (by rw [eX119]; first | done | (rfl)) ?_
                refine g_iinc X [(14, .int (nI (i76 + 1))), (0, .ref (y 0)), (1, .ref (y 1)), (2, .ref (y 2)), (4, .ref (y 4)), (5, .ref (y 7)), (6, .ref (y 8)), (7, .ref (y 10)), (9, .ref (y 12)), (10, .ref q0), (11, .ref q1), (12, .ref q2), (13, .int (nI i9))] (q := 12) (v := nI (i76 + 1)) dL_ground_351 rfl ((congrArg (fun z => nI (i76) + z) (show Int32.ofInt 1 = nI 1 by decide +kernel)).trans ((nI_add _ _).trans (congrArg nI (by omega)))) (Nat.le_of_ble_eq_true rfl) rfl ?_
                refine g_goto X (tgt := 173) dL_ground_354 (by decide) ?_
                refine g_lv _ [1, 2, 3, 4, 5, 6, 7, 8, 9, 10, 11, 12, 0] rfl ?_
                exact ihL75 (i76 + 1) _ (by omega) (by show _ = sdX C S4 i9 i76 (itr (sdX C S4 i9) _ i76); rw [← eX78]; unfold sdX; rw [hs0, hs1, hs2, eX119, eX115, eX114]; (try rw [ev117]); rfl)
              refine g_lj_ne X (tgt := 334) (pc1 := 327) dL_ground_326 rfl dL_ground_327 (by decide) (fun h116 => ?_) (fun h116 => ?_)
              · --
                refine g_lload X 0 dL_ground_334 rfl ?_
                refine g_aload_n X 7 dL_ground_336 rfl rfl ?_
                refine g_iload X 2 dL_ground_337 rfl ?_
                refine g_lald X 2 rfl (o) rfl (by omega) (Nat.le_of_ble_eq_true rfl) (v := S4 2 o) rfl dL_ground_339 ?_
                refine g_lload X 1 dL_ground_340 rfl ?_
                refine g_lmul X (v := (S4 2 o) * x112) dL_ground_342 rfl ?_
                refine g_aload_n X 5 dL_ground_343 rfl rfl ?_
                refine g_iload X 2 dL_ground_344 rfl ?_
                refine g_lald X 0 rfl (o) rfl (by omega) (Nat.le_of_ble_eq_true rfl) (v := S4 0 o) rfl dL_ground_346 ?_
                refine g_ldiv X (v := ((S4 2 o) * x112) / (S4 0 o)) dL_ground_347 hnz rfl ?_
                refine g_lmul X (v := ((S4 2 o) * x112) / (S4 0 o)) dL_ground_348 (by rw [Int64.one_mul]) ?_
                refine g_lv _ [5, 6, 7, 8, 9, 10, 11, 12, 13, 14, 15, 16, 17] rfl ?_
                exact J118 _ (by rw [if_pos (c := ¬ x112 = (0 : Int64)) h116])
              · --
                refine g_lconst X (v := 0) dL_ground_330 (by decide +kernel) ?_
                refine g_goto X (tgt := 349) dL_ground_331 (by decide) ?_
                refine g_lv _ [5, 6, 7, 8, 9, 10, 11, 12, 13, 14, 15, 16, 17] rfl ?_
                exact J118 _ (by rw [if_neg (c := ¬ x112 = (0 : Int64)) (fun z => z h116)])
      refine g_lv _ [1, 2, 3, 4, 5, 6, 7, 8, 9, 10, 11, 12, 0] rfl ?_
      exact L75 (4) 0 _ (by omega) (by first | rfl | ((try rw [eX74]); (try rw [eX73]); (try rw [eX72]); (try rw [eX11]); (try rw [eQk5]); (try rw [eS4]); first | done | rfl))
  refine g_lv _ [4, 5, 6, 8, 9, 10, 11, 13, 3, 2, 1, 0] rfl ?_
  exact L8 (12) 0 _ (by omega) (by first | rfl | ((try rw [eQk5]); (try rw [eS4]); first | done | rfl))
set_option maxRecDepth 100000 in
set_option maxHeartbeats 4000000 in
theorem m_L_ground (l : Launch) (D : va_G) (cI cJ cZ : ClassId) (y : Nat → Nat) (C : Cf) (N : Nat → Nat) (S : St) (Qk : Nat → Int64) (k : Int) (hC : Cok C N) (hR : Rok C) (hX : Xok C) (hW : Wk k S) (h0 : 0 ≤ k) (hk : k + 1000 ≤ 1099511627776) (hq : S 14 0 = lN (qN S) ∧ qN S ≤ 900000) : g_Ct l D cI cJ cZ yL_ground cL_ground 23 none rm_L_ground 3 36 [.ref (y 0), .ref (y 1), .ref (y 2), .ref (y 3), .ref (y 4), .ref (y 7), .ref (y 8), .ref (y 10), .ref (y 11), .ref (y 12)] (wL y cI cJ C N S Qk) (g_eq none (wL y cI cJ C N (grS C N S) (shQ S Qk 12))) := by
  refine g_body RL [(0, .ref (y 0)), (1, .ref (y 1)), (2, .ref (y 2)), (3, .ref (y 3)), (4, .ref (y 4)), (5, .ref (y 7)), (6, .ref (y 8)), (7, .ref (y 10)), (8, .ref (y 11)), (9, .ref (y 12))] kH_L rfl (Nat.le_of_ble_eq_true rfl) rfl ?_
  intro p e s m args below meth c A X hr hlk hmn Q hQ
  have hN0 := hC.n0
  have hN1 := hC.n1
  have hN2 := hC.n2
  refine g_iconst X (v := nI 0) dL_ground_0 (by decide +kernel) ?_
  refine g_istore X [(10, .int (nI 0)), (0, .ref (y 0)), (1, .ref (y 1)), (2, .ref (y 2)), (3, .ref (y 3)), (4, .ref (y 4)), (5, .ref (y 7)), (6, .ref (y 8)), (7, .ref (y 10)), (8, .ref (y 11)), (9, .ref (y 12))] dL_ground_1 (Nat.le_of_ble_eq_true rfl) rfl ?_
  have L1 : ∀ (n3 i2 : Nat) (S4 : St) (Qk5 : Nat → Int64), i2 + n3 = 12 → S4 = itr shS S i2 → Qk5 = shQ S Qk i2 → g_G p l e rm_L_ground s m args below meth c D A 23 0 0 Q (wL y cI cJ C N S4 Qk5) [(0, .ref (y 0)), (1, .ref (y 1)), (2, .ref (y 2)), (3, .ref (y 3)), (4, .ref (y 4)), (5, .ref (y 7)), (6, .ref (y 8)), (7, .ref (y 10)), (8, .ref (y 11)), (9, .ref (y 12)), (10, .int (nI i2))] 3 [] := by
    intro n3
    induction n3 with
    | zero =>
      intro i2 S4 Qk5 hi6 eS4 eQk5
      obtain rfl : i2 = 12 := by omega
      have hs := shk_q S hq 12 (by omega)
      rw [← eS4] at hs
      have hq2 := hq.2
      have hs2 := hs.2
      refine g_iload X 10 dL_ground_3 rfl ?_
      refine g_bipush X (v := nI 12) dL_ground_5 (by decide +kernel) ?_
      refine g_icN_ge X (a := 12) (b := 12) (tgt := 115) (by omega) (by omega) dL_ground_7 (by decide) (fun h7 => ?_) (fun h7 => absurd h7 (by omega))
      exact n_L_ground_115 l D cI cJ cZ y C N S Qk k hC hR hX hW h0 hk hq X hr hlk hQ S4 eS4 Qk5 eQk5
    | succ n3 ihL1 =>
      intro i2 S4 Qk5 hi6 eS4 eQk5
      have hlti2 : i2 < 12 := by omega
      have hs := shk_q S hq i2 (by omega)
      rw [← eS4] at hs
      have hq2 := hq.2
      have hs2 := hs.2
      refine g_iload X 10 dL_ground_3 rfl ?_
      refine g_bipush X (v := nI 12) dL_ground_5 (by decide +kernel) ?_
      refine g_icN_ge X (a := i2) (b := 12) (tgt := 115) (by omega) (by omega) dL_ground_7 (by decide) (fun h120 => absurd h120 (by omega)) (fun h120 => ?_)
      refine g_aload_n X 3 dL_ground_10 rfl rfl ?_
      refine g_iload X 10 dL_ground_11 rfl ?_
      refine g_lald X 3 rfl (i2) rfl (by omega) (Nat.le_of_ble_eq_true rfl) (v := S4 3 i2) rfl dL_ground_13 ?_
      refine g_ldc2 X kL_L_52 dL_ground_14 ?_
      refine g_lj_le X (tgt := 94) (pc1 := 18) dL_ground_17 rfl dL_ground_18 (by decide) (fun h121 => ?_) (fun h121 => ?_)
      · --
        refine g_aload_n X 3 dL_ground_94 rfl rfl ?_
        refine g_iload X 10 dL_ground_95 rfl ?_
        refine g_dup2_11 X dL_ground_97 rfl rfl ?_
        refine g_lald X 3 rfl (i2) rfl (by omega) (Nat.le_of_ble_eq_true rfl) (v := S4 3 i2) rfl dL_ground_98 ?_
        refine g_aload_n X 3 dL_ground_99 rfl rfl ?_
        refine g_iload X 10 dL_ground_100 rfl ?_
        refine g_lald X 3 rfl (i2) rfl (by omega) (Nat.le_of_ble_eq_true rfl) (v := S4 3 i2) rfl dL_ground_102 ?_
        refine g_ldc2 X kL_L_28 dL_ground_103 ?_
        refine g_ldiv X (v := (S4 3 i2) / (10 : Int64)) dL_ground_106 (by decide +kernel) rfl ?_
        refine g_lsub X (v := (S4 3 i2) - ((S4 3 i2) / (10 : Int64))) dL_ground_107 rfl ?_
        obtain ⟨S122, eS122⟩ : ∃ z : St, z = u2 S4 3 i2 ((S4 3 i2) - ((S4 3 i2) / (10 : Int64))) := ⟨_, rfl⟩
        refine g_last X (ws' := wL y cI cJ C N S122 Qk5) 3 rfl (i2) rfl (by omega) (Nat.le_of_ble_eq_true rfl) dL_ground_108 (by rw [eS122]; first | done | (rfl)) ?_
        refine g_iinc X [(10, .int (nI (i2 + 1))), (0, .ref (y 0)), (1, .ref (y 1)), (2, .ref (y 2)), (3, .ref (y 3)), (4, .ref (y 4)), (5, .ref (y 7)), (6, .ref (y 8)), (7, .ref (y 10)), (8, .ref (y 11)), (9, .ref (y 12))] (q := 10) (v := nI (i2 + 1)) dL_ground_109 rfl ((congrArg (fun z => nI (i2) + z) (show Int32.ofInt 1 = nI 1 by decide +kernel)).trans ((nI_add _ _).trans (congrArg nI (by omega)))) (Nat.le_of_ble_eq_true rfl) rfl ?_
        refine g_goto X (tgt := 3) dL_ground_112 (by decide) ?_
        refine g_lv _ [1, 2, 3, 4, 5, 6, 7, 8, 9, 10, 0] rfl ?_
        exact ihL1 (i2 + 1) _ _ (by omega) (by show _ = shS i2 (itr shS S i2); rw [← eS4]; unfold shS; simp only [if_pos h121]; rw [eS122]; rfl) (by show _ = if itr shS S i2 3 i2 ≤ 3000 then shQ S Qk i2 else addQ (itr shS S i2) (shQ S Qk i2) i2 (itr shS S i2 3 i2 / 1000); rw [← eS4, ← eQk5]; rw [if_pos h121])
      · --
        refine g_aload X 9 dL_ground_21 rfl ?_
        refine g_iconst X (v := nI 4) dL_ground_23 (by decide +kernel) ?_
        refine g_iald X 12 rfl (4) rfl (by omega) (Nat.le_of_ble_eq_true rfl) (v := nI (qN S4)) (rfl.trans (q_32 hs.1)) dL_ground_24 ?_
        refine g_bipush X (v := nI 20) dL_ground_25 (by decide +kernel) ?_
        refine g_icN_ge X (a := qN S4) (b := 20) (tgt := 76) (by omega) (by omega) dL_ground_27 (by decide) (fun h123 => ?_) (fun h123 => ?_)
        · --
          obtain ⟨Qk124, eQk124⟩ : ∃ z : Nat → Int64, z = addQ S4 Qk5 i2 (S4 3 i2 / 1000) := ⟨_, rfl⟩
          refine g_ws (ws' := wL y cI cJ C N S4 Qk124) (by rw [eQk124]; exact wL_Q (eK_add (by omega))) ?_
          refine g_aload X 9 dL_ground_76 rfl ?_
          refine g_iconst X (v := nI 4) dL_ground_78 (by decide +kernel) ?_
          refine g_dup2_11 X dL_ground_79 rfl rfl ?_
          refine g_iald X 12 rfl (4) rfl (by omega) (Nat.le_of_ble_eq_true rfl) (v := nI (qN S4)) (rfl.trans (q_32 hs.1)) dL_ground_80 ?_
          refine g_iconst X (v := nI 1) dL_ground_81 (by decide +kernel) ?_
          refine g_iadd X (v := nI (qN S4 + 1)) dL_ground_82 ((nI_add _ _).trans (congrArg nI (by omega))) ?_
          obtain ⟨S125, eS125⟩ : ∃ z : St, z = u2 S4 14 0 (S4 14 0 + 1) := ⟨_, rfl⟩
          refine g_iast X (ws' := wL y cI cJ C N S125 Qk124) 12 rfl (4) rfl (by omega) (Nat.le_of_ble_eq_true rfl) dL_ground_83 (by rw [eS125]; first | done | (rw [eQ_w4 _ _ _ (v := S4 14 0 + 1) (by rw [Int64.toInt32_add, q_32 hs.1]; exact nI_add _ _)]; rfl)) ?_
          refine g_aload_n X 3 dL_ground_84 rfl rfl ?_
          refine g_iload X 10 dL_ground_85 rfl ?_
          refine g_dup2_11 X dL_ground_87 rfl rfl ?_
          refine g_lald X 3 rfl (i2) rfl (by omega) (Nat.le_of_ble_eq_true rfl) (v := S125 3 i2) rfl dL_ground_88 ?_
          refine g_ldc2 X kL_L_50 dL_ground_89 ?_
          refine g_ldiv X (v := (S125 3 i2) / (2 : Int64)) dL_ground_92 (by decide +kernel) rfl ?_
          obtain ⟨S126, eS126⟩ : ∃ z : St, z = u2 S125 3 i2 ((S125 3 i2) / (2 : Int64)) := ⟨_, rfl⟩
          refine g_last X (ws' := wL y cI cJ C N S126 Qk124) 3 rfl (i2) rfl (by omega) (Nat.le_of_ble_eq_true rfl) dL_ground_93 (by rw [eS126]; first | done | (rfl)) ?_
          refine g_aload_n X 3 dL_ground_94 rfl rfl ?_
          refine g_iload X 10 dL_ground_95 rfl ?_
          refine g_dup2_11 X dL_ground_97 rfl rfl ?_
          refine g_lald X 3 rfl (i2) rfl (by omega) (Nat.le_of_ble_eq_true rfl) (v := S126 3 i2) rfl dL_ground_98 ?_
          refine g_aload_n X 3 dL_ground_99 rfl rfl ?_
          refine g_iload X 10 dL_ground_100 rfl ?_
          refine g_lald X 3 rfl (i2) rfl (by omega) (Nat.le_of_ble_eq_true rfl) (v := S126 3 i2) rfl dL_ground_102 ?_
          refine g_ldc2 X kL_L_28 dL_ground_103 ?_
          refine g_ldiv X (v := (S126 3 i2) / (10 : Int64)) dL_ground_106 (by decide +kernel) rfl ?_
          refine g_lsub X (v := (S126 3 i2) - ((S126 3 i2) / (10 : Int64))) dL_ground_107 rfl ?_
          obtain ⟨S127, eS127⟩ : ∃ z : St, z = u2 S126 3 i2 ((S126 3 i2) - ((S126 3 i2) / (10 : Int64))) := ⟨_, rfl⟩
          refine g_last X (ws' := wL y cI cJ C N S127 Qk124) 3 rfl (i2) rfl (by omega) (Nat.le_of_ble_eq_true rfl) dL_ground_108 (by rw [eS127]; first | done | (rfl)) ?_
          refine g_iinc X [(10, .int (nI (i2 + 1))), (0, .ref (y 0)), (1, .ref (y 1)), (2, .ref (y 2)), (3, .ref (y 3)), (4, .ref (y 4)), (5, .ref (y 7)), (6, .ref (y 8)), (7, .ref (y 10)), (8, .ref (y 11)), (9, .ref (y 12))] (q := 10) (v := nI (i2 + 1)) dL_ground_109 rfl ((congrArg (fun z => nI (i2) + z) (show Int32.ofInt 1 = nI 1 by decide +kernel)).trans ((nI_add _ _).trans (congrArg nI (by omega)))) (Nat.le_of_ble_eq_true rfl) rfl ?_
          refine g_goto X (tgt := 3) dL_ground_112 (by decide) ?_
          refine g_lv _ [1, 2, 3, 4, 5, 6, 7, 8, 9, 10, 0] rfl ?_
          exact ihL1 (i2 + 1) _ _ (by omega) (by show _ = shS i2 (itr shS S i2); rw [← eS4]; unfold shS; simp only [if_neg h121]; rw [eS127, eS126, eS125]; rw [u2_twice, u2_same]; rfl) (by show _ = if itr shS S i2 3 i2 ≤ 3000 then shQ S Qk i2 else addQ (itr shS S i2) (shQ S Qk i2) i2 (itr shS S i2 3 i2 / 1000); rw [← eS4, ← eQk5]; rw [if_neg h121, eQk124])
        · --
          refine g_aload X 8 dL_ground_30 rfl ?_
          refine g_iconst X (v := nI 3) dL_ground_32 (by decide +kernel) ?_
          refine g_aload X 9 dL_ground_33 rfl ?_
          refine g_iconst X (v := nI 4) dL_ground_35 (by decide +kernel) ?_
          refine g_iald X 12 rfl (4) rfl (by omega) (Nat.le_of_ble_eq_true rfl) (v := nI (qN S4)) (rfl.trans (q_32 hs.1)) dL_ground_36 ?_
          refine g_imul X (v := nI (3 * (qN S4))) dL_ground_37 (pk_mul _ _) ?_
          refine g_aload X 9 dL_ground_38 rfl ?_
          refine g_iconst X (v := nI 0) dL_ground_40 (by decide +kernel) ?_
          refine g_iald X 12 rfl (0) rfl (by omega) (Nat.le_of_ble_eq_true rfl) (v := (S4 13 0).toInt32) rfl dL_ground_41 ?_
          obtain ⟨Qk128, eQk128⟩ : ∃ z : Nat → Int64, z = vp_updL Qk5 (3 * (qN S4)) (S4 13 0) := ⟨_, rfl⟩
          refine g_iast X (ws' := wL y cI cJ C N S4 Qk128) 11 rfl (3 * (qN S4)) rfl (by omega) (Nat.le_of_ble_eq_true rfl) dL_ground_42 (by rw [eQk128]; first | done | (rw [eK_w _ (j := 3 * (qN S4)) (by omega) (v := (S4 13 0)) rfl]; rfl)) ?_
          refine g_aload X 8 dL_ground_43 rfl ?_
          refine g_iconst X (v := nI 3) dL_ground_45 (by decide +kernel) ?_
          refine g_aload X 9 dL_ground_46 rfl ?_
          refine g_iconst X (v := nI 4) dL_ground_48 (by decide +kernel) ?_
          refine g_iald X 12 rfl (4) rfl (by omega) (Nat.le_of_ble_eq_true rfl) (v := nI (qN S4)) (rfl.trans (q_32 hs.1)) dL_ground_49 ?_
          refine g_imul X (v := nI (3 * (qN S4))) dL_ground_50 (pk_mul _ _) ?_
          refine g_iconst X (v := nI 1) dL_ground_51 (by decide +kernel) ?_
          refine g_iadd X (v := nI (3 * (qN S4) + 1)) dL_ground_52 ((nI_add _ _).trans (congrArg nI (by omega))) ?_
          refine g_iload X 10 dL_ground_53 rfl ?_
          obtain ⟨Qk129, eQk129⟩ : ∃ z : Nat → Int64, z = vp_updL Qk128 (3 * (qN S4) + 1) (lN i2) := ⟨_, rfl⟩
          refine g_iast X (ws' := wL y cI cJ C N S4 Qk129) 11 rfl (3 * (qN S4) + 1) rfl (by omega) (Nat.le_of_ble_eq_true rfl) dL_ground_55 (by rw [eQk129]; first | done | (rw [eK_w _ (j := 3 * (qN S4) + 1) (by omega) (v := lN i2) (lN_i _)]; rfl)) ?_
          refine g_aload X 8 dL_ground_56 rfl ?_
          refine g_iconst X (v := nI 3) dL_ground_58 (by decide +kernel) ?_
          refine g_aload X 9 dL_ground_59 rfl ?_
          refine g_iconst X (v := nI 4) dL_ground_61 (by decide +kernel) ?_
          refine g_iald X 12 rfl (4) rfl (by omega) (Nat.le_of_ble_eq_true rfl) (v := nI (qN S4)) (rfl.trans (q_32 hs.1)) dL_ground_62 ?_
          refine g_imul X (v := nI (3 * (qN S4))) dL_ground_63 (pk_mul _ _) ?_
          refine g_iconst X (v := nI 2) dL_ground_64 (by decide +kernel) ?_
          refine g_iadd X (v := nI (3 * (qN S4) + 2)) dL_ground_65 ((nI_add _ _).trans (congrArg nI (by omega))) ?_
          refine g_aload_n X 3 dL_ground_66 rfl rfl ?_
          refine g_iload X 10 dL_ground_67 rfl ?_
          refine g_lald X 3 rfl (i2) rfl (by omega) (Nat.le_of_ble_eq_true rfl) (v := S4 3 i2) rfl dL_ground_69 ?_
          refine g_ldc2 X kL_L_54 dL_ground_70 ?_
          refine g_ldiv X (v := (S4 3 i2) / (1000 : Int64)) dL_ground_73 (by decide +kernel) rfl ?_
          refine g_l2i X (v := ((S4 3 i2) / (1000 : Int64)).toInt32) dL_ground_74 rfl ?_
          obtain ⟨Qk130, eQk130⟩ : ∃ z : Nat → Int64, z = vp_updL Qk129 (3 * (qN S4) + 2) ((S4 3 i2) / (1000 : Int64)) := ⟨_, rfl⟩
          refine g_iast X (ws' := wL y cI cJ C N S4 Qk130) 11 rfl (3 * (qN S4) + 2) rfl (by omega) (Nat.le_of_ble_eq_true rfl) dL_ground_75 (by rw [eQk130]; first | done | (rw [eK_w _ (j := 3 * (qN S4) + 2) (by omega) (v := ((S4 3 i2) / (1000 : Int64))) rfl]; rfl)) ?_
          refine g_aload X 9 dL_ground_76 rfl ?_
          refine g_iconst X (v := nI 4) dL_ground_78 (by decide +kernel) ?_
          refine g_dup2_11 X dL_ground_79 rfl rfl ?_
          refine g_iald X 12 rfl (4) rfl (by omega) (Nat.le_of_ble_eq_true rfl) (v := nI (qN S4)) (rfl.trans (q_32 hs.1)) dL_ground_80 ?_
          refine g_iconst X (v := nI 1) dL_ground_81 (by decide +kernel) ?_
          refine g_iadd X (v := nI (qN S4 + 1)) dL_ground_82 ((nI_add _ _).trans (congrArg nI (by omega))) ?_
          obtain ⟨S131, eS131⟩ : ∃ z : St, z = u2 S4 14 0 (S4 14 0 + 1) := ⟨_, rfl⟩
          refine g_iast X (ws' := wL y cI cJ C N S131 Qk130) 12 rfl (4) rfl (by omega) (Nat.le_of_ble_eq_true rfl) dL_ground_83 (by rw [eS131]; first | done | (rw [eQ_w4 _ _ _ (v := S4 14 0 + 1) (by rw [Int64.toInt32_add, q_32 hs.1]; exact nI_add _ _)]; rfl)) ?_
          refine g_aload_n X 3 dL_ground_84 rfl rfl ?_
          refine g_iload X 10 dL_ground_85 rfl ?_
          refine g_dup2_11 X dL_ground_87 rfl rfl ?_
          refine g_lald X 3 rfl (i2) rfl (by omega) (Nat.le_of_ble_eq_true rfl) (v := S131 3 i2) rfl dL_ground_88 ?_
          refine g_ldc2 X kL_L_50 dL_ground_89 ?_
          refine g_ldiv X (v := (S131 3 i2) / (2 : Int64)) dL_ground_92 (by decide +kernel) rfl ?_
          obtain ⟨S132, eS132⟩ : ∃ z : St, z = u2 S131 3 i2 ((S131 3 i2) / (2 : Int64)) := ⟨_, rfl⟩
          refine g_last X (ws' := wL y cI cJ C N S132 Qk130) 3 rfl (i2) rfl (by omega) (Nat.le_of_ble_eq_true rfl) dL_ground_93 (by rw [eS132]; first | done | (rfl)) ?_
          refine g_aload_n X 3 dL_ground_94 rfl rfl ?_
          refine g_iload X 10 dL_ground_95 rfl ?_
          refine g_dup2_11 X dL_ground_97 rfl rfl ?_
          refine g_lald X 3 rfl (i2) rfl (by omega) (Nat.le_of_ble_eq_true rfl) (v := S132 3 i2) rfl dL_ground_98 ?_
          refine g_aload_n X 3 dL_ground_99 rfl rfl ?_
          refine g_iload X 10 dL_ground_100 rfl ?_
          refine g_lald X 3 rfl (i2) rfl (by omega) (Nat.le_of_ble_eq_true rfl) (v := S132 3 i2) rfl dL_ground_102 ?_
          refine g_ldc2 X kL_L_28 dL_ground_103 ?_
          refine g_ldiv X (v := (S132 3 i2) / (10 : Int64)) dL_ground_106 (by decide +kernel) rfl ?_
          refine g_lsub X (v := (S132 3 i2) - ((S132 3 i2) / (10 : Int64))) dL_ground_107 rfl ?_
          obtain ⟨S133, eS133⟩ : ∃ z : St, z = u2 S132 3 i2 ((S132 3 i2) - ((S132 3 i2) / (10 : Int64))) := ⟨_, rfl⟩
          refine g_last X (ws' := wL y cI cJ C N S133 Qk130) 3 rfl (i2) rfl (by omega) (Nat.le_of_ble_eq_true rfl) dL_ground_108 (by rw [eS133]; first | done | (rfl)) ?_
          refine g_iinc X [(10, .int (nI (i2 + 1))), (0, .ref (y 0)), (1, .ref (y 1)), (2, .ref (y 2)), (3, .ref (y 3)), (4, .ref (y 4)), (5, .ref (y 7)), (6, .ref (y 8)), (7, .ref (y 10)), (8, .ref (y 11)), (9, .ref (y 12))] (q := 10) (v := nI (i2 + 1)) dL_ground_109 rfl ((congrArg (fun z => nI (i2) + z) (show Int32.ofInt 1 = nI 1 by decide +kernel)).trans ((nI_add _ _).trans (congrArg nI (by omega)))) (Nat.le_of_ble_eq_true rfl) rfl ?_
          refine g_goto X (tgt := 3) dL_ground_112 (by decide) ?_
          refine g_lv _ [1, 2, 3, 4, 5, 6, 7, 8, 9, 10, 0] rfl ?_
          exact ihL1 (i2 + 1) _ _ (by omega) (by show _ = shS i2 (itr shS S i2); rw [← eS4]; unfold shS; simp only [if_neg h121]; rw [eS133, eS132, eS131]; rw [u2_twice, u2_same]; rfl) (by show _ = if itr shS S i2 3 i2 ≤ 3000 then shQ S Qk i2 else addQ (itr shS S i2) (shQ S Qk i2) i2 (itr shS S i2 3 i2 / 1000); rw [← eS4, ← eQk5]; rw [if_neg h121, eQk130, eQk129, eQk128]; unfold addQ; rw [if_neg (show ¬ 60 ≤ qN S4 by omega)]; rfl)
  refine g_lv _ [1, 2, 3, 4, 5, 6, 7, 8, 9, 10, 0] rfl ?_
  exact L1 (12) 0 _ _ (by omega) (by first | rfl | (first | done | rfl)) (by first | rfl | (first | done | rfl))
