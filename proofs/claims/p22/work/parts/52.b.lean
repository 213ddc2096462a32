theorem hV_X0_copy : yX0_copy.cls = RX0 ∧ yX0_copy.cls ≠ "java/lang/invoke/MethodHandle" ∧ yX0_copy.cls ≠ "java/lang/invoke/VarHandle" ∧ (parseMethodDescriptor yX0_copy.desc).map (fun d => d.parameters.length) = some 1 := by decide +kernel
abbrev rm_X0_copy : Room := { frames := 3, cells := 0, slots := 0, locals := 65 }
set_option maxRecDepth 100000 in
set_option maxHeartbeats 4000000 in
theorem m_X0_copy (l : Launch) (D : va_G) (cI cJ cZ : ClassId) (f o : Nat → Nat) (C : Cf) (N : Nat → Nat) (S : St) (Qk : Nat → Int64) (Z : St) (B : Cf) (M : Nat → Nat) (T : St) (Qj : Nat → Int64) (V : St) (hZ : ZB C N S) (hY : ZB B M T) (hn0 : N 0 ≤ M 0) (hn1 : N 1 ≤ M 1) (hn2 : N 2 ≤ M 2) (hMC : Cok B M) (h3 : ∀ w, w < M 0 → B 3 w = 0 ∨ B 3 w = 1) (h6 : Bok M T) (hq : T 14 0 = lN (qN T) ∧ qN T ≤ 900000) : g_Ct l D cI cJ cZ yX0_copy cX0_copy 3 none rm_X0_copy 0 0 [.ref (f 0), .ref (o 0)] (wF f cI cJ cZ C N S Qk Z ++ wF o cI cJ cZ B M T Qj V) (g_eq none (wF f cI cJ cZ B M T (cpQ Qj Qk (if 60 < qN T then 60 else qN T)) Z ++ wF o cI cJ cZ B M T Qj V)) := by
  refine g_body RX0 [(0, .ref (f 0)), (1, .ref (o 0))] kH_X0 rfl (Nat.le_of_ble_eq_true rfl) rfl ?_
  intro p e s m args below meth c A X hr hlk hmn Q hQ
  refine g_ws (ws' := wFX f cI cJ cZ C S C N S C N C N S S Qk C S Z ++ wF o cI cJ cZ B M T Qj V) rfl ?_
  refine g_aload_n X 0 dX0_copy_0 rfl rfl ?_
  refine g_aload_n X 1 dX0_copy_1 rfl rfl ?_
  refine g_get X (C := RX0) (T := TX0) (N := 11) (v := .int ((T 13 0).toInt32)) inlX0 35 rfl rfl 0 (Nat.le_of_ble_eq_true rfl) kF_X0_9 rfl dX0_copy_2 ?_
  obtain ⟨hS1, ehS1⟩ : ∃ z : St, z = u2 S 13 0 (T 13 0) := ⟨_, rfl⟩
  refine g_put X (C := RX0) (T := TX0) (N := 11) (ws' := wFX f cI cJ cZ C S C N S C N C N S S Qk C hS1 Z ++ wF o cI cJ cZ B M T Qj V) inlX0 tyX0 tyX0_ok nmX0 0 rfl rfl 0 (Nat.le_of_ble_eq_true rfl) kF_X0_9 rfl rfl rfl (Nat.le_of_ble_eq_true rfl) dX0_copy_5 (by rw [ehS1]; first | done | (rfl)) ?_
  refine g_aload_n X 0 dX0_copy_8 rfl rfl ?_
  refine g_aload_n X 1 dX0_copy_9 rfl rfl ?_
  refine g_get X (C := RX0) (T := TX0) (N := 11) (v := .int (B 10 0)) inlX0 35 rfl rfl 1 (Nat.le_of_ble_eq_true rfl) kF_X0_15 rfl dX0_copy_10 ?_
  obtain ⟨hC2, ehC2⟩ : ∃ z : Cf, z = c2 C 10 0 (B 10 0) := ⟨_, rfl⟩
  refine g_put X (C := RX0) (T := TX0) (N := 11) (ws' := wFX f cI cJ cZ C S C N S C N C N S S Qk hC2 hS1 Z ++ wF o cI cJ cZ B M T Qj V) inlX0 tyX0 tyX0_ok nmX0 0 rfl rfl 1 (Nat.le_of_ble_eq_true rfl) kF_X0_15 rfl rfl rfl (Nat.le_of_ble_eq_true rfl) dX0_copy_13 (by rw [ehC2]; first | done | (rfl)) ?_
  refine g_aload_n X 0 dX0_copy_16 rfl rfl ?_
  refine g_get X (C := RX0) (T := TX0) (N := 11) (v := .ref (f 1)) inlX0 0 rfl rfl 2 (Nat.le_of_ble_eq_true rfl) kF_X0_21 rfl dX0_copy_17 ?_
  refine g_aload_n X 1 dX0_copy_20 rfl rfl ?_
  refine g_get X (C := RX0) (T := TX0) (N := 11) (v := .ref (o 1)) inlX0 35 rfl rfl 2 (Nat.le_of_ble_eq_true rfl) kF_X0_21 rfl dX0_copy_21 ?_
  obtain ⟨gC3, egC3⟩ : ∃ z : Cf, z = cpC B [0, 1] C 12 := ⟨_, rfl⟩
  obtain ⟨gS4, egS4⟩ : ∃ z : St, z = cpS T [0, 1, 2, 3] S 12 := ⟨_, rfl⟩
  refine g_callV X (As := [.ref (o 1)]) (rest := []) (m_X1_copy l D cI cJ cZ (fun i => f (1 + i)) (fun i => o (1 + i)) C S Z B T V ) kM_X0_67 kI_yX1_copy kS_yX1_copy kZ_RX1 kC_yX1_copy hV_X1_copy rfl rfl rfl 0 rfl (ci := 1) rfl ⟨Nat.le_of_ble_eq_true rfl, Nat.le_of_ble_eq_true rfl⟩ ⟨Nat.le_of_ble_eq_true rfl, Nat.le_of_ble_eq_true rfl⟩ (Nat.le_of_ble_eq_true rfl) dX0_copy_24 rfl (em_I 1 10 36 10) (em_C (by decide) (Nat.le_of_ble_eq_true rfl) rfl) (em_nd (by decide)) (g_kk1 (w2 := wFX f cI cJ cZ gC3 gS4 C N S C N C N S S Qk hC2 hS1 Z ++ wF o cI cJ cZ B M T Qj V) (by rw [egS4]; rw [egC3]; exact (em3 1 10 36 10 (by decide) (Nat.le_of_ble_eq_true rfl) rfl rfl rfl)) ?_)
  refine g_aload_n X 0 dX0_copy_27 rfl rfl ?_
  refine g_get X (C := RX0) (T := TX0) (N := 11) (v := .ref (f 11)) inlX0 0 rfl rfl 3 (Nat.le_of_ble_eq_true rfl) kF_X0_28 rfl dX0_copy_28 ?_
  refine g_aload_n X 1 dX0_copy_31 rfl rfl ?_
  refine g_get X (C := RX0) (T := TX0) (N := 11) (v := .ref (o 11)) inlX0 35 rfl rfl 3 (Nat.le_of_ble_eq_true rfl) kF_X0_28 rfl dX0_copy_32 ?_
  obtain ⟨wC5, ewC5⟩ : ∃ z : Cf, z = cpC B [2, 3, 4] C (M 0) := ⟨_, rfl⟩
  obtain ⟨wS6, ewS6⟩ : ∃ z : St, z = cpS T [4, 5, 6, 7, 8] S (M 0) := ⟨_, rfl⟩
  obtain ⟨wN7, ewN7⟩ : ∃ z : Nat → Nat, z = n2 N 0 (M 0) := ⟨_, rfl⟩
  refine g_callV X (As := [.ref (o 11)]) (rest := []) (m_X5_copy l D cI cJ cZ (fun i => f (11 + i)) (fun i => o (11 + i)) C N S B M T hMC.n0 h3 h6) kM_X0_71 kI_yX5_copy kS_yX5_copy kZ_RX5 kC_yX5_copy hV_X5_copy rfl rfl rfl 0 rfl (ci := 5) rfl ⟨Nat.le_of_ble_eq_true rfl, Nat.le_of_ble_eq_true rfl⟩ ⟨Nat.le_of_ble_eq_true rfl, Nat.le_of_ble_eq_true rfl⟩ (Nat.le_of_ble_eq_true rfl) dX0_copy_35 rfl (em_I 11 9 46 9) (em_C (by decide) (Nat.le_of_ble_eq_true rfl) rfl) (em_nd (by decide)) (g_kk1 (w2 := wFX f cI cJ cZ gC3 gS4 wC5 wN7 wS6 C N C N S S Qk hC2 hS1 Z ++ wF o cI cJ cZ B M T Qj V) (by rw [ewN7]; rw [ewS6]; rw [ewC5]; exact (em3 11 9 46 9 (by decide) (Nat.le_of_ble_eq_true rfl) rfl rfl rfl)) ?_)
  refine g_aload_n X 0 dX0_copy_38 rfl rfl ?_
  refine g_get X (C := RX0) (T := TX0) (N := 11) (v := .ref (f 20)) inlX0 0 rfl rfl 4 (Nat.le_of_ble_eq_true rfl) kF_X0_35 rfl dX0_copy_39 ?_
  refine g_aload_n X 1 dX0_copy_42 rfl rfl ?_
  refine g_get X (C := RX0) (T := TX0) (N := 11) (v := .ref (o 20)) inlX0 35 rfl rfl 4 (Nat.le_of_ble_eq_true rfl) kF_X0_35 rfl dX0_copy_43 ?_
  obtain ⟨uC8, euC8⟩ : ∃ z : Cf, z = cpC B [5, 6] C (M 1) := ⟨_, rfl⟩
  obtain ⟨uN9, euN9⟩ : ∃ z : Nat → Nat, z = n2 N 1 (M 1) := ⟨_, rfl⟩
  refine g_callV X (As := [.ref (o 20)]) (rest := []) (m_X4_copy l D cI cJ cZ (fun i => f (20 + i)) (fun i => o (20 + i)) C N B M hMC.n1) kM_X0_74 kI_yX4_copy kS_yX4_copy kZ_RX4 kC_yX4_copy hV_X4_copy rfl rfl rfl 0 rfl (ci := 4) rfl ⟨Nat.le_of_ble_eq_true rfl, Nat.le_of_ble_eq_true rfl⟩ ⟨Nat.le_of_ble_eq_true rfl, Nat.le_of_ble_eq_true rfl⟩ (Nat.le_of_ble_eq_true rfl) dX0_copy_46 rfl (em_I 20 3 55 3) (em_C (by decide) (Nat.le_of_ble_eq_true rfl) rfl) (em_nd (by decide)) (g_kk1 (w2 := wFX f cI cJ cZ gC3 gS4 wC5 wN7 wS6 uC8 uN9 C N S S Qk hC2 hS1 Z ++ wF o cI cJ cZ B M T Qj V) (by rw [euN9]; rw [euC8]; exact (em3 20 3 55 3 (by decide) (Nat.le_of_ble_eq_true rfl) rfl rfl rfl)) ?_)
  refine g_aload_n X 0 dX0_copy_49 rfl rfl ?_
  refine g_get X (C := RX0) (T := TX0) (N := 11) (v := .ref (f 23)) inlX0 0 rfl rfl 5 (Nat.le_of_ble_eq_true rfl) kF_X0_42 rfl dX0_copy_50 ?_
  refine g_aload_n X 1 dX0_copy_53 rfl rfl ?_
  refine g_get X (C := RX0) (T := TX0) (N := 11) (v := .ref (o 23)) inlX0 35 rfl rfl 5 (Nat.le_of_ble_eq_true rfl) kF_X0_42 rfl dX0_copy_54 ?_
  obtain ⟨sC10, esC10⟩ : ∃ z : Cf, z = cpC B [7, 8, 9] C (M 2) := ⟨_, rfl⟩
  obtain ⟨sS11, esS11⟩ : ∃ z : St, z = cpS T [11] (cpS T [9, 10] S (M 2)) (10 * M 2) := ⟨_, rfl⟩
  obtain ⟨sN12, esN12⟩ : ∃ z : Nat → Nat, z = n2 N 2 (M 2) := ⟨_, rfl⟩
  refine g_callV X (As := [.ref (o 23)]) (rest := []) (m_X3_copy l D cI cJ cZ (fun i => f (23 + i)) (fun i => o (23 + i)) C N S B M T hMC.n2) kM_X0_77 kI_yX3_copy kS_yX3_copy kZ_RX3 kC_yX3_copy hV_X3_copy rfl rfl rfl 0 rfl (ci := 3) rfl ⟨Nat.le_of_ble_eq_true rfl, Nat.le_of_ble_eq_true rfl⟩ ⟨Nat.le_of_ble_eq_true rfl, Nat.le_of_ble_eq_true rfl⟩ (Nat.le_of_ble_eq_true rfl) dX0_copy_57 rfl (em_I 23 7 58 7) (em_C (by decide) (Nat.le_of_ble_eq_true rfl) rfl) (em_nd (by decide)) (g_kk1 (w2 := wFX f cI cJ cZ gC3 gS4 wC5 wN7 wS6 uC8 uN9 sC10 sN12 sS11 S Qk hC2 hS1 Z ++ wF o cI cJ cZ B M T Qj V) (by rw [esN12]; rw [esS11]; rw [esC10]; exact (em3 23 7 58 7 (by decide) (Nat.le_of_ble_eq_true rfl) rfl rfl rfl)) ?_)
  refine g_aload_n X 0 dX0_copy_60 rfl rfl ?_
  refine g_get X (C := RX0) (T := TX0) (N := 11) (v := .ref (f 30)) inlX0 0 rfl rfl 6 (Nat.le_of_ble_eq_true rfl) kF_X0_49 rfl dX0_copy_61 ?_
  refine g_aload_n X 1 dX0_copy_64 rfl rfl ?_
  refine g_get X (C := RX0) (T := TX0) (N := 11) (v := .ref (o 30)) inlX0 35 rfl rfl 6 (Nat.le_of_ble_eq_true rfl) kF_X0_49 rfl dX0_copy_65 ?_
  obtain ⟨qS13, eqS13⟩ : ∃ z : St, z = u2 S 14 0 (T 14 0) := ⟨_, rfl⟩
  obtain ⟨Qk14, eQk14⟩ : ∃ z : Nat → Int64, z = cpQ Qj Qk (if 60 < qN T then 60 else qN T) := ⟨_, rfl⟩
  refine g_callV X (As := [.ref (o 30)]) (rest := []) (m_X2_copy l D cI cJ cZ (fun i => f (30 + i)) (fun i => o (30 + i)) S Qk T Qj hq) kM_X0_80 kI_yX2_copy kS_yX2_copy kZ_RX2 kC_yX2_copy hV_X2_copy rfl rfl rfl 0 rfl (ci := 2) rfl ⟨Nat.le_of_ble_eq_true rfl, Nat.le_of_ble_eq_true rfl⟩ ⟨Nat.le_of_ble_eq_true rfl, Nat.le_of_ble_eq_true rfl⟩ (Nat.le_of_ble_eq_true rfl) dX0_copy_68 rfl (em_I 30 4 65 4) (em_C (by decide) (Nat.le_of_ble_eq_true rfl) rfl) (em_nd (by decide)) (g_kk1 (w2 := wFX f cI cJ cZ gC3 gS4 wC5 wN7 wS6 uC8 uN9 sC10 sN12 sS11 qS13 Qk14 hC2 hS1 Z ++ wF o cI cJ cZ B M T Qj V) (by rw [eQk14]; rw [eqS13]; exact (em3 30 4 65 4 (by decide) (Nat.le_of_ble_eq_true rfl) rfl rfl rfl)) ?_)
  refine g_iconst X (v := nI 0) dX0_copy_71 (by decide +kernel) ?_
  refine g_istore_n X [(2, .int (nI 0)), (0, .ref (f 0)), (1, .ref (o 0))] dX0_copy_72 rfl (Nat.le_of_ble_eq_true rfl) rfl ?_
  have L15 : ∀ (n17 i16 : Nat) (hS18 : St), i16 + n17 = 8 → hS18 = cpS T [12] hS1 i16 → g_G p l e rm_X0_copy s m args below meth c D A 3 0 0 Q (wFX f cI cJ cZ gC3 gS4 wC5 wN7 wS6 uC8 uN9 sC10 sN12 sS11 qS13 Qk14 hC2 hS18 Z ++ wF o cI cJ cZ B M T Qj V) [(0, .ref (f 0)), (1, .ref (o 0)), (2, .int (nI i16))] 73 [] := by
    intro n17
    induction n17 with
    | zero =>
      intro i16 hS18 hi19 ehS18
      obtain rfl : i16 = 8 := by omega
      refine g_iload_n X 2 dX0_copy_73 rfl rfl ?_
      refine g_bipush X (v := nI 8) dX0_copy_74 (by decide +kernel) ?_
      refine g_icN_ge X (a := 8) (b := 8) (tgt := 97) (by omega) (by omega) dX0_copy_76 (by decide) (fun h20 => ?_) (fun h20 => absurd h20 (by omega))
      refine g_cg (ws' := wF f cI cJ cZ B M T Qk14 Z ++ wF o cI cJ cZ B M T Qj V) (by (try rw [ehS18]); (try rw [eQk14]); (try rw [eqS13]); (try rw [esN12]); (try rw [esS11]); (try rw [esC10]); (try rw [euN9]); (try rw [euC8]); (try rw [ewN7]); (try rw [ewS6]); (try rw [ewC5]); (try rw [egS4]); (try rw [egC3]); (try rw [ehC2]); (try rw [ehS1]); exact g_sim.app (fcp_sim hZ hY hn0 hn1 hn2 (a := u2 S 13 0 (T 13 0)) (b := S) (c := S) rfl rfl) (g_sim.rfl' _)) ?_
      refine g_vret X hr hlk hQ dX0_copy_97 ?_
      show g_eq _ _ _ _
      try rw [ehS18]
      try rw [eQk14]
      try rw [eqS13]
      try rw [esN12]
      try rw [esS11]
      try rw [esC10]
      try rw [euN9]
      try rw [euC8]
      try rw [ewN7]
      try rw [ewS6]
      try rw [ewC5]
      try rw [egS4]
      try rw [egC3]
      try rw [ehC2]
      try rw [ehS1]
      exact ⟨rfl, rfl⟩
    | succ n17 ihL15 =>
      intro i16 hS18 hi19 ehS18
      have hlti16 : i16 < 8 := by omega
      refine g_iload_n X 2 dX0_copy_73 rfl rfl ?_
      refine g_bipush X (v := nI 8) dX0_copy_74 (by decide +kernel) ?_
      refine g_icN_ge X (a := i16) (b := 8) (tgt := 97) (by omega) (by omega) dX0_copy_76 (by decide) (fun h21 => absurd h21 (by omega)) (fun h21 => ?_)
      refine g_aload_n X 0 dX0_copy_79 rfl rfl ?_
      refine g_get X (C := RX0) (T := TX0) (N := 11) (v := .ref (f 34)) inlX0 0 rfl rfl 7 (Nat.le_of_ble_eq_true rfl) kF_X0_53 rfl dX0_copy_80 ?_
      refine g_iload_n X 2 dX0_copy_83 rfl rfl ?_
      refine g_aload_n X 1 dX0_copy_84 rfl rfl ?_
      refine g_get X (C := RX0) (T := TX0) (N := 11) (v := .ref (o 34)) inlX0 35 rfl rfl 7 (Nat.le_of_ble_eq_true rfl) kF_X0_53 rfl dX0_copy_85 ?_
      refine g_iload_n X 2 dX0_copy_88 rfl rfl ?_
      refine g_lald X 69 rfl (i16) rfl (by omega) (Nat.le_of_ble_eq_true rfl) (v := T 12 i16) rfl dX0_copy_89 ?_
      obtain ⟨hS22, ehS22⟩ : ∃ z : St, z = u2 hS18 12 i16 (T 12 i16) := ⟨_, rfl⟩
      refine g_last X (ws' := wFX f cI cJ cZ gC3 gS4 wC5 wN7 wS6 uC8 uN9 sC10 sN12 sS11 qS13 Qk14 hC2 hS22 Z ++ wF o cI cJ cZ B M T Qj V) 34 rfl (i16) rfl (by omega) (Nat.le_of_ble_eq_true rfl) dX0_copy_90 (by rw [ehS22]; first | done | (rfl)) ?_
      refine g_iinc X [(2, .int (nI (i16 + 1))), (0, .ref (f 0)), (1, .ref (o 0))] (q := 2) (v := nI (i16 + 1)) dX0_copy_91 rfl ((congrArg (fun z => nI (i16) + z) (show Int32.ofInt 1 = nI 1 by decide +kernel)).trans ((nI_add _ _).trans (congrArg nI (by omega)))) (Nat.le_of_ble_eq_true rfl) rfl ?_
      refine g_goto X (tgt := 73) dX0_copy_94 (by decide) ?_
      refine g_lv _ [1, 2, 0] rfl ?_
      exact ihL15 (i16 + 1) _ (by omega) (by (try rw [ehS22]); (try rw [ehS18]); first | done | (rfl))
  refine g_lv _ [1, 2, 0] rfl ?_
  exact L15 (8) 0 _ (by omega) (by first | rfl | ((try rw [eQk14]); (try rw [eqS13]); (try rw [esN12]); (try rw [esS11]); (try rw [esC10]); (try rw [euN9]); (try rw [euC8]); (try rw [ewN7]); (try rw [ewS6]); (try rw [ewC5]); (try rw [egS4]); (try rw [egC3]); (try rw [ehC2]); (try rw [ehS1]); first | done | rfl))
