set_option maxRecDepth 100000 in
set_option maxHeartbeats 4000000 in
theorem m_L_ground (l : Launch) (D : va_G) (cI cJ cZ : ClassId) (y : Nat → Nat) (C : Cf) (N : Nat → Nat) (S : St) (Qk : Nat → Int64) (k : Int) (hC : Cok C N) (hR : Rok C) (hX : Xok C) (hW : Wk k S) (h0 : 0 ≤ k) (hk : k + 1000 ≤ 1099511627776) (hq : S 14 0 = lN (qN S) ∧ qN S ≤ 900000) (hn2 : N 2 ≤ 3) : g_Ct l D cI cJ cZ yL_ground cL_ground 23 none rm_L_ground 3 36 [.ref (y 0), .ref (y 1), .ref (y 2), .ref (y 3), .ref (y 4), .ref (y 7), .ref (y 8), .ref (y 10), .ref (y 11), .ref (y 12)] (wL y cI cJ C N S Qk) (g_eq none (wL y cI cJ C N (grS C N S) (shQ S Qk 12))) := by
  refine g_body RL [(0, .ref (y 0)), (1, .ref (y 1)), (2, .ref (y 2)), (3, .ref (y 3)), (4, .ref (y 4)), (5, .ref (y 7)), (6, .ref (y 8)), (7, .ref (y 10)), (8, .ref (y 11)), (9, .ref (y 12))] kH_L rfl (Nat.le_of_ble_eq_true rfl) rfl ?_
  intro p e s m args below meth c A X hr hlk hmn Q hQ
  have hN0 := hC.n0
  have hN1 := hC.n1
  have hN2 := hC.n2
  refine g_iconst X (v := nI 0) dL_ground_0 (by decide +kernel) ?_
  refine g_istore X [(10, .int (nI 0)), (0, .ref (y 0)), (1, .ref (y 1)), (2, .ref (y 2)), (3, .ref (y 3)), (4, .ref (y 4)), (5, .ref (y 7)), (6, .ref (y 8)), (7, .ref (y 10)), (8, .ref (y 11)), (9, .ref (y 12))] dL_ground_1 (Nat.le_of_ble_eq_true rfl) rfl ?_
  have L1 : ∀ (n3 i2 : Nat) (S4 : St) (Qk5 : Nat → Int64), i2 + n3 = 12 → S4 = itr shS S i2 → Qk5 = shQ S Qk i2 → g_G p l e rm_L_ground s m args below meth c D A 23 0 0 Q (wL y cI cJ C N S4 Qk5) [(0, .ref (y 0)), (1, .ref (y 1)), (2, .ref (y 2)), (3, .ref (y 3)), (4, .ref (y 4)), (5, .ref (y 7)), (6, .ref (y 8)), (7, .ref (y 10)), (8, .ref (y 11)), (9, .ref (y 12)), (10, .int (nI i2))] 3 [] := by
    intro n3
    induction n3 with
    | zero =>
      intro i2 S4 Qk5 hi6 eS4 eQk5
      obtain rfl : i2 = 12 := by omega
      have hs := shk_q S hq 12 (by omega)
      rw [← eS4] at hs
      have hq2 := hq.2
      have hs2 := hs.2
      refine g_iload X 10 dL_ground_3 rfl ?_
      refine g_bipush X (v := nI 12) dL_ground_5 (by decide +kernel) ?_
      refine g_icN_ge X (a := 12) (b := 12) (tgt := 115) (by omega) (by omega) dL_ground_7 (by decide) (fun h7 => ?_) (fun h7 => absurd h7 (by omega))
      exact n_L_ground_115 l D cI cJ cZ y C N S Qk k hC hR hX hW h0 hk hq hn2 X hr hlk hQ S4 eS4 Qk5 eQk5
    | succ n3 ihL1 =>
      intro i2 S4 Qk5 hi6 eS4 eQk5
      have hlti2 : i2 < 12 := by omega
      have hs := shk_q S hq i2 (by omega)
      rw [← eS4] at hs
      have hq2 := hq.2
      have hs2 := hs.2
      refine g_iload X 10 dL_ground_3 rfl ?_
      refine g_bipush X (v := nI 12) dL_ground_5 (by decide +kernel) ?_
      refine g_icN_ge X (a := i2) (b := 12) (tgt := 115) (by omega) (by omega) dL_ground_7 (by decide) (fun h116 => absurd h116 (by omega)) (fun h116 => ?_)
      refine g_aload_n X 3 dL_ground_10 rfl rfl ?_
      refine g_iload X 10 dL_ground_11 rfl ?_
      refine g_lald X 3 rfl (i2) rfl (by omega) (Nat.le_of_ble_eq_true rfl) (v := S4 3 i2) rfl dL_ground_13 ?_
      refine g_ldc2 X kL_L_52 dL_ground_14 ?_
      refine g_lj_le X (tgt := 94) (pc1 := 18) dL_ground_17 rfl dL_ground_18 (by decide) (fun h117 => ?_) (fun h117 => ?_)
      · --
        refine g_aload_n X 3 dL_ground_94 rfl rfl ?_
        refine g_iload X 10 dL_ground_95 rfl ?_
        refine g_dup2_11 X dL_ground_97 rfl rfl ?_
        refine g_lald X 3 rfl (i2) rfl (by omega) (Nat.le_of_ble_eq_true rfl) (v := S4 3 i2) rfl dL_ground_98 ?_
        refine g_aload_n X 3 dL_ground_99 rfl rfl ?_
        refine g_iload X 10 dL_ground_100 rfl ?_
        refine g_lald X 3 rfl (i2) rfl (by omega) (Nat.le_of_ble_eq_true rfl) (v := S4 3 i2) rfl dL_ground_102 ?_
        refine g_ldc2 X kL_L_28 dL_ground_103 ?_
        refine g_ldiv X (v := (S4 3 i2) / (10 : Int64)) dL_ground_106 (by decide +kernel) rfl ?_
        refine g_lsub X (v := (S4 3 i2) - ((S4 3 i2) / (10 : Int64))) dL_ground_107 rfl ?_
        obtain ⟨S118, eS118⟩ : ∃ z : St, z = u2 S4 3 i2 ((S4 3 i2) - ((S4 3 i2) / (10 : Int64))) := ⟨_, rfl⟩
        refine g_last X (ws' := wL y cI cJ C N S118 Qk5) 3 rfl (i2) rfl (by omega) (Nat.le_of_ble_eq_true rfl) dL_ground_108 (by rw [eS118]; first | done | (rfl)) ?_
        refine g_iinc X [(10, .int (nI (i2 + 1))), (0, .ref (y 0)), (1, .ref (y 1)), (2, .ref (y 2)), (3, .ref (y 3)), (4, .ref (y 4)), (5, .ref (y 7)), (6, .ref (y 8)), (7, .ref (y 10)), (8, .ref (y 11)), (9, .ref (y 12))] (q := 10) (v := nI (i2 + 1)) dL_ground_109 rfl ((congrArg (fun z => nI (i2) + z) (show Int32.ofInt 1 = nI 1 by decide +kernel)).trans ((nI_add _ _).trans (congrArg nI (by omega)))) (Nat.le_of_ble_eq_true rfl) rfl ?_
        refine g_goto X (tgt := 3) dL_ground_112 (by decide) ?_
        refine g_lv _ [1, 2, 3, 4, 5, 6, 7, 8, 9, 10, 0] rfl ?_
        exact ihL1 (i2 + 1) _ _ (by omega) (by show _ = shS i2 (itr shS S i2); rw [← eS4]; unfold shS; simp only [if_pos h117]; rw [eS118] <;> rfl) (by show _ = if itr shS S i2 3 i2 ≤ 3000 then shQ S Qk i2 else addQ (itr shS S i2) (shQ S Qk i2) i2 (itr shS S i2 3 i2 / 1000); rw [← eS4, ← eQk5]; rw [if_pos h117])
      · --
        refine g_aload X 9 dL_ground_21 rfl ?_
        refine g_iconst X (v := nI 4) dL_ground_23 (by decide +kernel) ?_
        refine g_iald X 12 rfl (4) rfl (by omega) (Nat.le_of_ble_eq_true rfl) (v := nI (qN S4)) (rfl.trans (q_32 hs.1)) dL_ground_24 ?_
        refine g_bipush X (v := nI 20) dL_ground_25 (by decide +kernel) ?_
        refine g_icN_ge X (a := qN S4) (b := 20) (tgt := 76) (by omega) (by omega) dL_ground_27 (by decide) (fun h119 => ?_) (fun h119 => ?_)
        · --
          obtain ⟨Qk120, eQk120⟩ : ∃ z : Nat → Int64, z = addQ S4 Qk5 i2 (S4 3 i2 / 1000) := ⟨_, rfl⟩
          refine g_ws (ws' := wL y cI cJ C N S4 Qk120) (by rw [eQk120]; exact wL_Q (lrK_add (by omega))) ?_
          refine g_aload X 9 dL_ground_76 rfl ?_
          refine g_iconst X (v := nI 4) dL_ground_78 (by decide +kernel) ?_
          refine g_dup2_11 X dL_ground_79 rfl rfl ?_
          refine g_iald X 12 rfl (4) rfl (by omega) (Nat.le_of_ble_eq_true rfl) (v := nI (qN S4)) (rfl.trans (q_32 hs.1)) dL_ground_80 ?_
          refine g_iconst X (v := nI 1) dL_ground_81 (by decide +kernel) ?_
          refine g_iadd X (v := nI (qN S4 + 1)) dL_ground_82 ((nI_add _ _).trans (congrArg nI (by omega))) ?_
          obtain ⟨S121, eS121⟩ : ∃ z : St, z = u2 S4 14 0 (S4 14 0 + 1) := ⟨_, rfl⟩
          refine g_iast X (ws' := wL y cI cJ C N S121 Qk120) 12 rfl (4) rfl (by omega) (Nat.le_of_ble_eq_true rfl) dL_ground_83 (by rw [eS121]; first | done | (rw [lrQ_w4 _ _ _ (v := S4 14 0 + 1) (by rw [Int64.toInt32_add, q_32 hs.1]; exact nI_add _ _)]; rfl)) ?_
          refine g_aload_n X 3 dL_ground_84 rfl rfl ?_
          refine g_iload X 10 dL_ground_85 rfl ?_
          refine g_dup2_11 X dL_ground_87 rfl rfl ?_
          refine g_lald X 3 rfl (i2) rfl (by omega) (Nat.le_of_ble_eq_true rfl) (v := S121 3 i2) rfl dL_ground_88 ?_
          refine g_ldc2 X kL_L_50 dL_ground_89 ?_
          refine g_ldiv X (v := (S121 3 i2) / (2 : Int64)) dL_ground_92 (by decide +kernel) rfl ?_
          obtain ⟨S122, eS122⟩ : ∃ z : St, z = u2 S121 3 i2 ((S121 3 i2) / (2 : Int64)) := ⟨_, rfl⟩
          refine g_last X (ws' := wL y cI cJ C N S122 Qk120) 3 rfl (i2) rfl (by omega) (Nat.le_of_ble_eq_true rfl) dL_ground_93 (by rw [eS122]; first | done | (rfl)) ?_
          refine g_aload_n X 3 dL_ground_94 rfl rfl ?_
          refine g_iload X 10 dL_ground_95 rfl ?_
          refine g_dup2_11 X dL_ground_97 rfl rfl ?_
          refine g_lald X 3 rfl (i2) rfl (by omega) (Nat.le_of_ble_eq_true rfl) (v := S122 3 i2) rfl dL_ground_98 ?_
          refine g_aload_n X 3 dL_ground_99 rfl rfl ?_
          refine g_iload X 10 dL_ground_100 rfl ?_
          refine g_lald X 3 rfl (i2) rfl (by omega) (Nat.le_of_ble_eq_true rfl) (v := S122 3 i2) rfl dL_ground_102 ?_
          refine g_ldc2 X kL_L_28 dL_ground_103 ?_
          refine g_ldiv X (v := (S122 3 i2) / (10 : Int64)) dL_ground_106 (by decide +kernel) rfl ?_
          refine g_lsub X (v := (S122 3 i2) - ((S122 3 i2) / (10 : Int64))) dL_ground_107 rfl ?_
          obtain ⟨S123, eS123⟩ : ∃ z : St, z = u2 S122 3 i2 ((S122 3 i2) - ((S122 3 i2) / (10 : Int64))) := ⟨_, rfl⟩
          refine g_last X (ws' := wL y cI cJ C N S123 Qk120) 3 rfl (i2) rfl (by omega) (Nat.le_of_ble_eq_true rfl) dL_ground_108 (by rw [eS123]; first | done | (rfl)) ?_
          refine g_iinc X [(10, .int (nI (i2 + 1))), (0, .ref (y 0)), (1, .ref (y 1)), (2, .ref (y 2)), (3, .ref (y 3)), (4, .ref (y 4)), (5, .ref (y 7)), (6, .ref (y 8)), (7, .ref (y 10)), (8, .ref (y 11)), (9, .ref (y 12))] (q := 10) (v := nI (i2 + 1)) dL_ground_109 rfl ((congrArg (fun z => nI (i2) + z) (show Int32.ofInt 1 = nI 1 by decide +kernel)).trans ((nI_add _ _).trans (congrArg nI (by omega)))) (Nat.le_of_ble_eq_true rfl) rfl ?_
          refine g_goto X (tgt := 3) dL_ground_112 (by decide) ?_
          refine g_lv _ [1, 2, 3, 4, 5, 6, 7, 8, 9, 10, 0] rfl ?_
          exact ihL1 (i2 + 1) _ _ (by omega) (by show _ = shS i2 (itr shS S i2); rw [← eS4]; unfold shS; simp only [if_neg h117]; rw [eS123, eS122, eS121]; rw [u2_twice, u2_same]; rfl) (by show _ = if itr shS S i2 3 i2 ≤ 3000 then shQ S Qk i2 else addQ (itr shS S i2) (shQ S Qk i2) i2 (itr shS S i2 3 i2 / 1000); rw [← eS4, ← eQk5]; rw [if_neg h117, eQk120])
        · --
          refine g_aload X 8 dL_ground_30 rfl ?_
          refine g_iconst X (v := nI 3) dL_ground_32 (by decide +kernel) ?_
          refine g_aload X 9 dL_ground_33 rfl ?_
          refine g_iconst X (v := nI 4) dL_ground_35 (by decide +kernel) ?_
          refine g_iald X 12 rfl (4) rfl (by omega) (Nat.le_of_ble_eq_true rfl) (v := nI (qN S4)) (rfl.trans (q_32 hs.1)) dL_ground_36 ?_
          refine g_imul X (v := nI (3 * (qN S4))) dL_ground_37 (pk_mul _ _) ?_
          refine g_aload X 9 dL_ground_38 rfl ?_
          refine g_iconst X (v := nI 0) dL_ground_40 (by decide +kernel) ?_
          refine g_iald X 12 rfl (0) rfl (by omega) (Nat.le_of_ble_eq_true rfl) (v := (S4 13 0).toInt32) rfl dL_ground_41 ?_
          obtain ⟨Qk124, eQk124⟩ : ∃ z : Nat → Int64, z = vp_updL Qk5 (3 * (qN S4)) (S4 13 0) := ⟨_, rfl⟩
          refine g_iast X (ws' := wL y cI cJ C N S4 Qk124) 11 rfl (3 * (qN S4)) rfl (by omega) (Nat.le_of_ble_eq_true rfl) dL_ground_42 (by rw [eQk124]; first | done | (rw [lrK_w _ (j := 3 * (qN S4)) (by omega) (v := (S4 13 0)) rfl]; rfl)) ?_
          refine g_aload X 8 dL_ground_43 rfl ?_
          refine g_iconst X (v := nI 3) dL_ground_45 (by decide +kernel) ?_
          refine g_aload X 9 dL_ground_46 rfl ?_
          refine g_iconst X (v := nI 4) dL_ground_48 (by decide +kernel) ?_
          refine g_iald X 12 rfl (4) rfl (by omega) (Nat.le_of_ble_eq_true rfl) (v := nI (qN S4)) (rfl.trans (q_32 hs.1)) dL_ground_49 ?_
          refine g_imul X (v := nI (3 * (qN S4))) dL_ground_50 (pk_mul _ _) ?_
          refine g_iconst X (v := nI 1) dL_ground_51 (by decide +kernel) ?_
          refine g_iadd X (v := nI (3 * (qN S4) + 1)) dL_ground_52 ((nI_add _ _).trans (congrArg nI (by omega))) ?_
          refine g_iload X 10 dL_ground_53 rfl ?_
          obtain ⟨Qk125, eQk125⟩ : ∃ z : Nat → Int64, z = vp_updL Qk124 (3 * (qN S4) + 1) (lN i2) := ⟨_, rfl⟩
          refine g_iast X (ws' := wL y cI cJ C N S4 Qk125) 11 rfl (3 * (qN S4) + 1) rfl (by omega) (Nat.le_of_ble_eq_true rfl) dL_ground_55 (by rw [eQk125]; first | done | (rw [lrK_w _ (j := 3 * (qN S4) + 1) (by omega) (v := lN i2) (lN_i _)]; rfl)) ?_
          refine g_aload X 8 dL_ground_56 rfl ?_
          refine g_iconst X (v := nI 3) dL_ground_58 (by decide +kernel) ?_
          refine g_aload X 9 dL_ground_59 rfl ?_
          refine g_iconst X (v := nI 4) dL_ground_61 (by decide +kernel) ?_
          refine g_iald X 12 rfl (4) rfl (by omega) (Nat.le_of_ble_eq_true rfl) (v := nI (qN S4)) (rfl.trans (q_32 hs.1)) dL_ground_62 ?_
          refine g_imul X (v := nI (3 * (qN S4))) dL_ground_63 (pk_mul _ _) ?_
          refine g_iconst X (v := nI 2) dL_ground_64 (by decide +kernel) ?_
          refine g_iadd X (v := nI (3 * (qN S4) + 2)) dL_ground_65 ((nI_add _ _).trans (congrArg nI (by omega))) ?_
          refine g_aload_n X 3 dL_ground_66 rfl rfl ?_
          refine g_iload X 10 dL_ground_67 rfl ?_
          refine g_lald X 3 rfl (i2) rfl (by omega) (Nat.le_of_ble_eq_true rfl) (v := S4 3 i2) rfl dL_ground_69 ?_
          refine g_ldc2 X kL_L_54 dL_ground_70 ?_
          refine g_ldiv X (v := (S4 3 i2) / (1000 : Int64)) dL_ground_73 (by decide +kernel) rfl ?_
          refine g_l2i X (v := ((S4 3 i2) / (1000 : Int64)).toInt32) dL_ground_74 rfl ?_
          obtain ⟨Qk126, eQk126⟩ : ∃ z : Nat → Int64, z = vp_updL Qk125 (3 * (qN S4) + 2) ((S4 3 i2) / (1000 : Int64)) := ⟨_, rfl⟩
          refine g_iast X (ws' := wL y cI cJ C N S4 Qk126) 11 rfl (3 * (qN S4) + 2) rfl (by omega) (Nat.le_of_ble_eq_true rfl) dL_ground_75 (by rw [eQk126]; first | done | (rw [lrK_w _ (j := 3 * (qN S4) + 2) (by omega) (v := ((S4 3 i2) / (1000 : Int64))) rfl]; rfl)) ?_
          refine g_aload X 9 dL_ground_76 rfl ?_
          refine g_iconst X (v := nI 4) dL_ground_78 (by decide +kernel) ?_
          refine g_dup2_11 X dL_ground_79 rfl rfl ?_
          refine g_iald X 12 rfl (4) rfl (by omega) (Nat.le_of_ble_eq_true rfl) (v := nI (qN S4)) (rfl.trans (q_32 hs.1)) dL_ground_80 ?_
          refine g_iconst X (v := nI 1) dL_ground_81 (by decide +kernel) ?_
          refine g_iadd X (v := nI (qN S4 + 1)) dL_ground_82 ((nI_add _ _).trans (congrArg nI (by omega))) ?_
          obtain ⟨S127, eS127⟩ : ∃ z : St, z = u2 S4 14 0 (S4 14 0 + 1) := ⟨_, rfl⟩
          refine g_iast X (ws' := wL y cI cJ C N S127 Qk126) 12 rfl (4) rfl (by omega) (Nat.le_of_ble_eq_true rfl) dL_ground_83 (by rw [eS127]; first | done | (rw [lrQ_w4 _ _ _ (v := S4 14 0 + 1) (by rw [Int64.toInt32_add, q_32 hs.1]; exact nI_add _ _)]; rfl)) ?_
          refine g_aload_n X 3 dL_ground_84 rfl rfl ?_
          refine g_iload X 10 dL_ground_85 rfl ?_
          refine g_dup2_11 X dL_ground_87 rfl rfl ?_
          refine g_lald X 3 rfl (i2) rfl (by omega) (Nat.le_of_ble_eq_true rfl) (v := S127 3 i2) rfl dL_ground_88 ?_
          refine g_ldc2 X kL_L_50 dL_ground_89 ?_
          refine g_ldiv X (v := (S127 3 i2) / (2 : Int64)) dL_ground_92 (by decide +kernel) rfl ?_
          obtain ⟨S128, eS128⟩ : ∃ z : St, z = u2 S127 3 i2 ((S127 3 i2) / (2 : Int64)) := ⟨_, rfl⟩
          refine g_last X (ws' := wL y cI cJ C N S128 Qk126) 3 rfl (i2) rfl (by omega) (Nat.le_of_ble_eq_true rfl) dL_ground_93 (by rw [eS128]; first | done | (rfl)) ?_
          refine g_aload_n X 3 dL_ground_94 rfl rfl ?_
          refine g_iload X 10 dL_ground_95 rfl ?_
          refine g_dup2_11 X dL_ground_97 rfl rfl ?_
          refine g_lald X 3 rfl (i2) rfl (by omega) (Nat.le_of_ble_eq_true rfl) (v := S128 3 i2) rfl dL_ground_98 ?_
          refine g_aload_n X 3 dL_ground_99 rfl rfl ?_
          refine g_iload X 10 dL_ground_100 rfl ?_
          refine g_lald X 3 rfl (i2) rfl (by omega) (Nat.le_of_ble_eq_true rfl) (v := S128 3 i2) rfl dL_ground_102 ?_
          refine g_ldc2 X kL_L_28 dL_ground_103 ?_
          refine g_ldiv X (v := (S128 3 i2) / (10 : Int64)) dL_ground_106 (by decide +kernel) rfl ?_
          refine g_lsub X (v := (S128 3 i2) - ((S128 3 i2) / (10 : Int64))) dL_ground_107 rfl ?_
          obtain ⟨S129, eS129⟩ : ∃ z : St, z = u2 S128 3 i2 ((S128 3 i2) - ((S128 3 i2) / (10 : Int64))) := ⟨_, rfl⟩
          refine g_last X (ws' := wL y cI cJ C N S129 Qk126) 3 rfl (i2) rfl (by omega) (Nat.le_of_ble_eq_true rfl) dL_ground_108 (by rw [eS129]; first | done | (rfl)) ?_
          refine g_iinc X [(10, .int (nI (i2 + 1))), (0, .ref (y 0)), (1, .ref (y 1)), (2, .ref (y 2)), (3, .ref (y 3)), (4, .ref (y 4)), (5, .ref (y 7)), (6, .ref (y 8)), (7, .ref (y 10)), (8, .ref (y 11)), (9, .ref (y 12))] (q := 10) (v := nI (i2 + 1)) dL_ground_109 rfl ((congrArg (fun z => nI (i2) + z) (show Int32.ofInt 1 = nI 1 by decide +kernel)).trans ((nI_add _ _).trans (congrArg nI (by omega)))) (Nat.le_of_ble_eq_true rfl) rfl ?_
          refine g_goto X (tgt := 3) dL_ground_112 (by decide) ?_
          refine g_lv _ [1, 2, 3, 4, 5, 6, 7, 8, 9, 10, 0] rfl ?_
          exact ihL1 (i2 + 1) _ _ (by omega) (by show _ = shS i2 (itr shS S i2); rw [← eS4]; unfold shS; simp only [if_neg h117]; rw [eS129, eS128, eS127]; rw [u2_twice, u2_same]; rfl) (by show _ = if itr shS S i2 3 i2 ≤ 3000 then shQ S Qk i2 else addQ (itr shS S i2) (shQ S Qk i2) i2 (itr shS S i2 3 i2 / 1000); rw [← eS4, ← eQk5]; rw [if_neg h117, eQk126, eQk125, eQk124]; unfold addQ; rw [if_neg (show ¬ 60 ≤ qN S4 by omega)]; rfl)
  refine g_lv _ [1, 2, 3, 4, 5, 6, 7, 8, 9, 10, 0] rfl ?_
  exact L1 (12) 0 _ _ (by omega) (by first | rfl | (first | done | rfl)) (by first | rfl | (first | done | rfl))
