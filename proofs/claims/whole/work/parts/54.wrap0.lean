theorem hV_L_block : yL_block.cls = RL ∧ yL_block.cls ≠ "java/lang/invoke/MethodHandle" ∧ yL_block.cls ≠ "java/lang/invoke/VarHandle" ∧ (parseMethodDescriptor yL_block.desc).map (fun d => d.parameters.length) = some 5 := by decide +kernel
abbrev rm_L_block : Room := { frames := 3, cells := 0, slots := 0, locals := 66 }
set_option maxRecDepth 100000 in
set_option maxHeartbeats 4000000 in
theorem m_L_block (l : Launch) (hl0 : l.stackTraces = false) (D : va_G) (cI cJ cZ : ClassId) (B0 : Nat) (x : Nat → Nat) (y : Nat) (C : Cf) (N : Nat → Nat) (S : St) (Qk : Nat → Int64) (Z : St) (u : Nat) (U : Nat → Int64) (v q r : Int32) (hM : 0 ≤ (S 13 0).toInt ∧ (S 13 0).toInt ≤ 1000) (hc0 : cB3 S v q r = 0) (hB : g_Bw B0 (wX x y cI cJ cZ C N S Qk Z ++ [(u, .inl (cJ, 1, .inr (.inl U)))])) : g_CtW l D cI cJ cZ B0 yL_block cL_block 6 (some .int) [(0, 12, 15, 13), (0, 12, 19, 15), (0, 12, 23, 17)] rm_L_block 0 0 [.ref (x 0), .int v, .int q, .int r, .ref u] (wX x y cI cJ cZ C N S Qk Z ++ [(u, .inl (cJ, 1, .inr (.inl U)))]) (g_eq (some (.int (nI 0))) (wX x y cI cJ cZ C N (u2 (u2 S 0 (nN v) q.toInt64) 1 (nN v) (r.toInt64 * (q + nI 20000).toInt64)) Qk Z ++ [(u, .inl (cJ, 1, .inr (.inl (vp_updL U 0 (((S 0 (nN v)).toInt32).toInt64)))))])) := by
  refine g_bodyW RL [(0, .ref (x 0)), (1, .int v), (2, .int q), (3, .int r), (4, .ref u)] kH_L rfl (Nat.le_of_ble_eq_true rfl) rfl hB ?_
  intro p e s m args below meth c A X Y hT hr hlk hmn Q hQ
  refine g_aload X 4 dL_block_0 rfl ?_
  refine g_iconst X (v := nI 0) dL_block_2 (by decide +kernel) ?_
  refine g_aload_n X 0 dL_block_3 rfl rfl ?_
  refine g_iload_n X 1 dL_block_4 rfl rfl ?_
  refine g_iload_n X 2 dL_block_5 rfl rfl ?_
  refine g_iload_n X 3 dL_block_6 rfl rfl ?_
  obtain ⟨S1, eS1⟩ : ∃ z : St, z = (u2 (u2 S 0 (nN v) q.toInt64) 1 (nN v) (r.toInt64 * (q + nI 20000).toInt64)) := ⟨_, rfl⟩
  refine g_callV X (As := [.int v, .int q, .int r]) (rest := [.int (nI 0), .ref u]) (m_X6_block l D cI cJ cZ x y C N S Qk Z v q r hM hc0) kM_L_7 kI_yX6_block kS_yX6_block kZ_RX6 kC_yX6_block hV_X6_block rfl rfl rfl 0 rfl (ci := 6) rfl ⟨Nat.le_of_ble_eq_true rfl, Nat.le_of_ble_eq_true rfl⟩ ⟨Nat.le_of_ble_eq_true rfl, Nat.le_of_ble_eq_true rfl⟩ (Nat.le_of_ble_eq_true rfl) dL_block_7 rfl (em_I 0 36 36 0) (em_C (by decide) (Nat.le_of_ble_eq_true rfl) rfl) (em_nd (by decide)) (g_kk1 (w2 := wX x y cI cJ cZ C N S1 Qk Z ++ [(u, .inl (cJ, 1, .inr (.inl U)))]) (by rw [eS1]; exact (em3 0 36 36 0 (by decide) (Nat.le_of_ble_eq_true rfl) rfl rfl rfl)) ?_)
  refine g_i2l X (v := ((S 0 (nN v)).toInt32).toInt64) dL_block_10 rfl ?_
  obtain ⟨U2, eU2⟩ : ∃ z : Nat → Int64, z = vp_updL U 0 (((S 0 (nN v)).toInt32).toInt64) := ⟨_, rfl⟩
  refine g_last X (ws' := wX x y cI cJ cZ C N S1 Qk Z ++ [(u, .inl (cJ, 1, .inr (.inl U2)))]) 36 rfl (0) rfl (by omega) (Nat.le_of_ble_eq_true rfl) dL_block_11 (by rw [eU2]; first | done | (rfl)) ?_
  refine g_goto X (tgt := 27) dL_block_12 (by decide) ?_
  refine g_iconst X (v := nI 0) dL_block_27 (by decide +kernel) ?_
  refine g_iret X hr hlk hQ dL_block_28 ?_
  show g_eq _ _ _ _
  try rw [eU2]
  try rw [eS1]
  exact ⟨rfl, rfl⟩
abbrev rm_L_blockX : Room := { frames := 9, cells := 1, slots := 6, locals := 148 }
set_option maxRecDepth 100000 in
set_option maxHeartbeats 4000000 in
theorem m_L_blockX (l : Launch) (hl0 : l.stackTraces = false) (D : va_G) (cI cJ cZ : ClassId) (B0 : Nat) (x : Nat → Nat) (y : Nat) (C : Cf) (N : Nat → Nat) (S : St) (Qk : Nat → Int64) (Z : St) (u : Nat) (U : Nat → Int64) (v q r : Int32) (hM : 0 ≤ (S 13 0).toInt ∧ (S 13 0).toInt ≤ 1000) (hc1 : ¬ cB3 S v q r = 0) (hB : g_Bw B0 (wX x y cI cJ cZ C N S Qk Z ++ [(u, .inl (cJ, 1, .inr (.inl U)))])) : g_CtW l D cI cJ cZ B0 yL_block cL_block 6 (some .int) [(0, 12, 15, 13), (0, 12, 19, 15), (0, 12, 23, 17)] rm_L_blockX 1 6 [.ref (x 0), .int v, .int q, .int r, .ref u] (wX x y cI cJ cZ C N S Qk Z ++ [(u, .inl (cJ, 1, .inr (.inl U)))]) (g_eq (some (.int (nI (cB3 S v q r)))) (wX x y cI cJ cZ C N S Qk Z ++ [(u, .inl (cJ, 1, .inr (.inl U)))])) := by
  refine g_bodyW RL [(0, .ref (x 0)), (1, .int v), (2, .int q), (3, .int r), (4, .ref u)] kH_L rfl (Nat.le_of_ble_eq_true rfl) rfl hB ?_
  intro p e s m args below meth c A X Y hT hr hlk hmn Q hQ
  refine g_aload X 4 dL_block_0 rfl ?_
  refine g_iconst X (v := nI 0) dL_block_2 (by decide +kernel) ?_
  refine g_aload_n X 0 dL_block_3 rfl rfl ?_
  refine g_iload_n X 1 dL_block_4 rfl rfl ?_
  refine g_iload_n X 2 dL_block_5 rfl rfl ?_
  refine g_iload_n X 3 dL_block_6 rfl rfl ?_
  have hle : cB3 S v q r ≤ 3 := by unfold cB3; (repeat' split) <;> omega
  rcases (show cB3 S v q r = 1 ∨ cB3 S v q r = 2 ∨ cB3 S v q r = 3 by omega) with hk | hk | hk
  · --
    have hE : eA (cB3 S v q r) = xI := by rw [hk]; rfl
    have hm := m_X6_blockX l hl0 D cI cJ cZ B0 x y C N S Qk Z v q r hM hc1 (fun k q h => hB k q ((List.getElem?_append_left (List.getElem?_eq_some_iff.mp h).1).trans h))
    rw [hE] at hm
    refine g_callVC X Y (As := [.int v, .int q, .int r]) (rest := [.int (nI 0), .ref u]) hm kM_L_7 kI_yX6_block kS_yX6_block kZ_RX6 kC_yX6_block hV_X6_block rfl rfl rfl 0 rfl (ci := 6) rfl ⟨Nat.le_of_ble_eq_true rfl, Nat.le_of_ble_eq_true rfl⟩ ⟨Nat.le_of_ble_eq_true rfl, Nat.le_of_ble_eq_true rfl⟩ (Nat.le_of_ble_eq_true rfl) dL_block_7 rfl (em_I 0 36 36 0) (em_C (by decide) (Nat.le_of_ble_eq_true rfl) rfl) (em_nd (by decide)) (em3 0 36 36 0 (by decide) (Nat.le_of_ble_eq_true rfl) rfl rfl rfl) [] ⟨0, 12, 15, 13⟩ [⟨0, 12, 19, 15⟩, ⟨0, 12, 23, 17⟩] hT (by decide) (fun z hz => by simp at hz) (by decide) (by decide) kQ_L_13 (fun q9 => ?_)
    refine g_astore X [(5, .ref q9), (0, .ref (x 0)), (1, .int v), (2, .int q), (3, .int r), (4, .ref u)] dL_block_15 (Nat.le_of_ble_eq_true rfl) rfl ?_
    refine g_iconst X (v := nI 1) dL_block_17 (by decide +kernel) ?_
    refine g_iret X hr hlk hQ dL_block_18 ?_
    show g_eq _ _ _ _
    refine ⟨?_, rfl⟩
    rw [hk]
  · --
    have hE : eA (cB3 S v q r) = xA := by rw [hk]; rfl
    have hm := m_X6_blockX l hl0 D cI cJ cZ B0 x y C N S Qk Z v q r hM hc1 (fun k q h => hB k q ((List.getElem?_append_left (List.getElem?_eq_some_iff.mp h).1).trans h))
    rw [hE] at hm
    refine g_callVC X Y (As := [.int v, .int q, .int r]) (rest := [.int (nI 0), .ref u]) hm kM_L_7 kI_yX6_block kS_yX6_block kZ_RX6 kC_yX6_block hV_X6_block rfl rfl rfl 0 rfl (ci := 6) rfl ⟨Nat.le_of_ble_eq_true rfl, Nat.le_of_ble_eq_true rfl⟩ ⟨Nat.le_of_ble_eq_true rfl, Nat.le_of_ble_eq_true rfl⟩ (Nat.le_of_ble_eq_true rfl) dL_block_7 rfl (em_I 0 36 36 0) (em_C (by decide) (Nat.le_of_ble_eq_true rfl) rfl) (em_nd (by decide)) (em3 0 36 36 0 (by decide) (Nat.le_of_ble_eq_true rfl) rfl rfl rfl) [⟨0, 12, 15, 13⟩] ⟨0, 12, 19, 15⟩ [⟨0, 12, 23, 17⟩] hT (by decide) (fun z hz => by simp only [List.mem_cons, List.not_mem_nil, or_false] at hz; subst hz; exact ⟨by decide, xI, by decide, by decide, kQ_L_13⟩) (by decide) (by decide) kQ_L_15 (fun q9 => ?_)
    refine g_astore X [(5, .ref q9), (0, .ref (x 0)), (1, .int v), (2, .int q), (3, .int r), (4, .ref u)] dL_block_19 (Nat.le_of_ble_eq_true rfl) rfl ?_
    refine g_iconst X (v := nI 2) dL_block_21 (by decide +kernel) ?_
    refine g_iret X hr hlk hQ dL_block_22 ?_
    show g_eq _ _ _ _
    refine ⟨?_, rfl⟩
    rw [hk]
  · --
    have hE : eA (cB3 S v q r) = xS := by rw [hk]; rfl
    have hm := m_X6_blockX l hl0 D cI cJ cZ B0 x y C N S Qk Z v q r hM hc1 (fun k q h => hB k q ((List.getElem?_append_left (List.getElem?_eq_some_iff.mp h).1).trans h))
    rw [hE] at hm
    refine g_callVC X Y (As := [.int v, .int q, .int r]) (rest := [.int (nI 0), .ref u]) hm kM_L_7 kI_yX6_block kS_yX6_block kZ_RX6 kC_yX6_block hV_X6_block rfl rfl rfl 0 rfl (ci := 6) rfl ⟨Nat.le_of_ble_eq_true rfl, Nat.le_of_ble_eq_true rfl⟩ ⟨Nat.le_of_ble_eq_true rfl, Nat.le_of_ble_eq_true rfl⟩ (Nat.le_of_ble_eq_true rfl) dL_block_7 rfl (em_I 0 36 36 0) (em_C (by decide) (Nat.le_of_ble_eq_true rfl) rfl) (em_nd (by decide)) (em3 0 36 36 0 (by decide) (Nat.le_of_ble_eq_true rfl) rfl rfl rfl) [⟨0, 12, 15, 13⟩, ⟨0, 12, 19, 15⟩] ⟨0, 12, 23, 17⟩ [] hT (by decide) (fun z hz => by simp only [List.mem_cons, List.not_mem_nil, or_false] at hz; rcases hz with rfl | rfl; exact ⟨by decide, xI, by decide, by decide, kQ_L_13⟩; exact ⟨by decide, xA, by decide, by decide, kQ_L_15⟩) (by decide) (by decide) kQ_L_17 (fun q9 => ?_)
    refine g_astore X [(5, .ref q9), (0, .ref (x 0)), (1, .int v), (2, .int q), (3, .int r), (4, .ref u)] dL_block_23 (Nat.le_of_ble_eq_true rfl) rfl ?_
    refine g_iconst X (v := nI 3) dL_block_25 (by decide +kernel) ?_
    refine g_iret X hr hlk hQ dL_block_26 ?_
    show g_eq _ _ _ _
    refine ⟨?_, rfl⟩
    rw [hk]
theorem hV_L_crack : yL_crack.cls = RL ∧ yL_crack.cls ≠ "java/lang/invoke/MethodHandle" ∧ yL_crack.cls ≠ "java/lang/invoke/VarHandle" ∧ (parseMethodDescriptor yL_crack.desc).map (fun d => d.parameters.length) = some 5 := by decide +kernel
abbrev rm_L_crack : Room := { frames := 3, cells := 0, slots := 0, locals := 72 }
set_option maxRecDepth 100000 in
set_option maxHeartbeats 4000000 in
theorem m_L_crack (l : Launch) (hl0 : l.stackTraces = false) (D : va_G) (cI cJ cZ : ClassId) (B0 : Nat) (x : Nat → Nat) (y : Nat) (C : Cf) (N : Nat → Nat) (S : St) (Qk : Nat → Int64) (Z : St) (u : Nat) (U : Nat → Int64) (v q r : Int32)  (hc0 : cK3 v q r = 0) (hB : g_Bw B0 (wX x y cI cJ cZ C N S Qk Z ++ [(u, .inl (cJ, 1, .inr (.inl U)))])) : g_CtW l D cI cJ cZ B0 yL_crack cL_crack 6 (some .int) [(0, 12, 15, 13), (0, 12, 19, 15)] rm_L_crack 0 0 [.ref (x 0), .int v, .int q, .int r, .ref u] (wX x y cI cJ cZ C N S Qk Z ++ [(u, .inl (cJ, 1, .inr (.inl U)))]) (g_eq (some (.int (nI 0))) (wX x y cI cJ cZ (swC C (nN v) (nN q) r) N S Qk Z ++ [(u, .inl (cJ, 1, .inr (.inl (vp_updL U 0 ((swR C (nN v) (nN q)).toInt64)))))])) := by
  refine g_bodyW RL [(0, .ref (x 0)), (1, .int v), (2, .int q), (3, .int r), (4, .ref u)] kH_L rfl (Nat.le_of_ble_eq_true rfl) rfl hB ?_
  intro p e s m args below meth c A X Y hT hr hlk hmn Q hQ
  refine g_aload X 4 dL_crack_0 rfl ?_
  refine g_iconst X (v := nI 0) dL_crack_2 (by decide +kernel) ?_
  refine g_aload_n X 0 dL_crack_3 rfl rfl ?_
  refine g_iload_n X 1 dL_crack_4 rfl rfl ?_
  refine g_iload_n X 2 dL_crack_5 rfl rfl ?_
  refine g_iload_n X 3 dL_crack_6 rfl rfl ?_
  obtain ⟨C1, eC1⟩ : ∃ z : Cf, z = (swC C (nN v) (nN q) r) := ⟨_, rfl⟩
  refine g_callV X (As := [.int v, .int q, .int r]) (rest := [.int (nI 0), .ref u]) (m_X6_crack l D cI cJ cZ x y C N S Qk Z v q r hc0) kM_L_19 kI_yX6_crack kS_yX6_crack kZ_RX6 kC_yX6_crack hV_X6_crack rfl rfl rfl 0 rfl (ci := 6) rfl ⟨Nat.le_of_ble_eq_true rfl, Nat.le_of_ble_eq_true rfl⟩ ⟨Nat.le_of_ble_eq_true rfl, Nat.le_of_ble_eq_true rfl⟩ (Nat.le_of_ble_eq_true rfl) dL_crack_7 rfl (em_I 0 36 36 0) (em_C (by decide) (Nat.le_of_ble_eq_true rfl) rfl) (em_nd (by decide)) (g_kk1 (w2 := wX x y cI cJ cZ C1 N S Qk Z ++ [(u, .inl (cJ, 1, .inr (.inl U)))]) (by rw [eC1]; exact (em3 0 36 36 0 (by decide) (Nat.le_of_ble_eq_true rfl) rfl rfl rfl)) ?_)
  refine g_i2l X (v := (swR C (nN v) (nN q)).toInt64) dL_crack_10 rfl ?_
  obtain ⟨U2, eU2⟩ : ∃ z : Nat → Int64, z = vp_updL U 0 ((swR C (nN v) (nN q)).toInt64) := ⟨_, rfl⟩
  refine g_last X (ws' := wX x y cI cJ cZ C1 N S Qk Z ++ [(u, .inl (cJ, 1, .inr (.inl U2)))]) 36 rfl (0) rfl (by omega) (Nat.le_of_ble_eq_true rfl) dL_crack_11 (by rw [eU2]; first | done | (rfl)) ?_
  refine g_goto X (tgt := 23) dL_crack_12 (by decide) ?_
  refine g_iconst X (v := nI 0) dL_crack_23 (by decide +kernel) ?_
  refine g_iret X hr hlk hQ dL_crack_24 ?_
  show g_eq _ _ _ _
  try rw [eU2]
  try rw [eC1]
  exact ⟨rfl, rfl⟩
abbrev rm_L_crackX : Room := { frames := 9, cells := 1, slots := 6, locals := 147 }
set_option maxRecDepth 100000 in
set_option maxHeartbeats 4000000 in
theorem m_L_crackX (l : Launch) (hl0 : l.stackTraces = false) (D : va_G) (cI cJ cZ : ClassId) (B0 : Nat) (x : Nat → Nat) (y : Nat) (C : Cf) (N : Nat → Nat) (S : St) (Qk : Nat → Int64) (Z : St) (u : Nat) (U : Nat → Int64) (v q r : Int32)  (hc1 : ¬ cK3 v q r = 0) (hB : g_Bw B0 (wX x y cI cJ cZ C N S Qk Z ++ [(u, .inl (cJ, 1, .inr (.inl U)))])) : g_CtW l D cI cJ cZ B0 yL_crack cL_crack 6 (some .int) [(0, 12, 15, 13), (0, 12, 19, 15)] rm_L_crackX 1 6 [.ref (x 0), .int v, .int q, .int r, .ref u] (wX x y cI cJ cZ C N S Qk Z ++ [(u, .inl (cJ, 1, .inr (.inl U)))]) (g_eq (some (.int (nI (cK3 v q r)))) (wX x y cI cJ cZ C N S Qk Z ++ [(u, .inl (cJ, 1, .inr (.inl U)))])) := by
  refine g_bodyW RL [(0, .ref (x 0)), (1, .int v), (2, .int q), (3, .int r), (4, .ref u)] kH_L rfl (Nat.le_of_ble_eq_true rfl) rfl hB ?_
  intro p e s m args below meth c A X Y hT hr hlk hmn Q hQ
  refine g_aload X 4 dL_crack_0 rfl ?_
  refine g_iconst X (v := nI 0) dL_crack_2 (by decide +kernel) ?_
  refine g_aload_n X 0 dL_crack_3 rfl rfl ?_
  refine g_iload_n X 1 dL_crack_4 rfl rfl ?_
  refine g_iload_n X 2 dL_crack_5 rfl rfl ?_
  refine g_iload_n X 3 dL_crack_6 rfl rfl ?_
  have hle : cK3 v q r ≤ 2 := by unfold cK3; (repeat' split) <;> omega
  rcases (show cK3 v q r = 1 ∨ cK3 v q r = 2 by omega) with hk | hk
  · --
    have hE : eA (cK3 v q r) = xI := by rw [hk]; rfl
    have hm := m_X6_crackX l hl0 D cI cJ cZ B0 x y C N S Qk Z v q r hc1 (fun k q h => hB k q ((List.getElem?_append_left (List.getElem?_eq_some_iff.mp h).1).trans h))
    rw [hE] at hm
    refine g_callVC X Y (As := [.int v, .int q, .int r]) (rest := [.int (nI 0), .ref u]) hm kM_L_19 kI_yX6_crack kS_yX6_crack kZ_RX6 kC_yX6_crack hV_X6_crack rfl rfl rfl 0 rfl (ci := 6) rfl ⟨Nat.le_of_ble_eq_true rfl, Nat.le_of_ble_eq_true rfl⟩ ⟨Nat.le_of_ble_eq_true rfl, Nat.le_of_ble_eq_true rfl⟩ (Nat.le_of_ble_eq_true rfl) dL_crack_7 rfl (em_I 0 36 36 0) (em_C (by decide) (Nat.le_of_ble_eq_true rfl) rfl) (em_nd (by decide)) (em3 0 36 36 0 (by decide) (Nat.le_of_ble_eq_true rfl) rfl rfl rfl) [] ⟨0, 12, 15, 13⟩ [⟨0, 12, 19, 15⟩] hT (by decide) (fun z hz => by simp at hz) (by decide) (by decide) kQ_L_13 (fun q9 => ?_)
    refine g_astore X [(5, .ref q9), (0, .ref (x 0)), (1, .int v), (2, .int q), (3, .int r), (4, .ref u)] dL_crack_15 (Nat.le_of_ble_eq_true rfl) rfl ?_
    refine g_iconst X (v := nI 1) dL_crack_17 (by decide +kernel) ?_
    refine g_iret X hr hlk hQ dL_crack_18 ?_
    show g_eq _ _ _ _
    refine ⟨?_, rfl⟩
    rw [hk]
  · --
    have hE : eA (cK3 v q r) = xA := by rw [hk]; rfl
    have hm := m_X6_crackX l hl0 D cI cJ cZ B0 x y C N S Qk Z v q r hc1 (fun k q h => hB k q ((List.getElem?_append_left (List.getElem?_eq_some_iff.mp h).1).trans h))
    rw [hE] at hm
    refine g_callVC X Y (As := [.int v, .int q, .int r]) (rest := [.int (nI 0), .ref u]) hm kM_L_19 kI_yX6_crack kS_yX6_crack kZ_RX6 kC_yX6_crack hV_X6_crack rfl rfl rfl 0 rfl (ci := 6) rfl ⟨Nat.le_of_ble_eq_true rfl, Nat.le_of_ble_eq_true rfl⟩ ⟨Nat.le_of_ble_eq_true rfl, Nat.le_of_ble_eq_true rfl⟩ (Nat.le_of_ble_eq_true rfl) dL_crack_7 rfl (em_I 0 36 36 0) (em_C (by decide) (Nat.le_of_ble_eq_true rfl) rfl) (em_nd (by decide)) (em3 0 36 36 0 (by decide) (Nat.le_of_ble_eq_true rfl) rfl rfl rfl) [⟨0, 12, 15, 13⟩] ⟨0, 12, 19, 15⟩ [] hT (by decide) (fun z hz => by simp only [List.mem_cons, List.not_mem_nil, or_false] at hz; subst hz; exact ⟨by decide, xI, by decide, by decide, kQ_L_13⟩) (by decide) (by decide) kQ_L_15 (fun q9 => ?_)
    refine g_astore X [(5, .ref q9), (0, .ref (x 0)), (1, .int v), (2, .int q), (3, .int r), (4, .ref u)] dL_crack_19 (Nat.le_of_ble_eq_true rfl) rfl ?_
    refine g_iconst X (v := nI 2) dL_crack_21 (by decide +kernel) ?_
    refine g_iret X hr hlk hQ dL_crack_22 ?_
    show g_eq _ _ _ _
    refine ⟨?_, rfl⟩
    rw [hk]
theorem hV_L_rain : yL_rain.cls = RL ∧ yL_rain.cls ≠ "java/lang/invoke/MethodHandle" ∧ yL_rain.cls ≠ "java/lang/invoke/VarHandle" ∧ (parseMethodDescriptor yL_rain.desc).map (fun d => d.parameters.length) = some 3 := by decide +kernel
abbrev rm_L_rain : Room := { frames := 3, cells := 0, slots := 0, locals := 64 }
set_option maxRecDepth 100000 in
set_option maxHeartbeats 4000000 in
theorem m_L_rain (l : Launch) (hl0 : l.stackTraces = false) (D : va_G) (cI cJ cZ : ClassId) (B0 : Nat) (x : Nat → Nat) (y : Nat) (C : Cf) (N : Nat → Nat) (S : St) (Qk : Nat → Int64) (Z : St) (u : Nat) (U : Nat → Int64) (v : Int32)  (hc0 : cR1 v (nI 0) (nI 500) = 0) (hB : g_Bw B0 (wX x y cI cJ cZ C N S Qk Z ++ [(u, .inl (cJ, 1, .inr (.inl U)))])) : g_CtW l D cI cJ cZ B0 yL_rain cL_rain 4 (some .int) [(0, 9, 12, 15)] rm_L_rain 0 0 [.ref (x 0), .int v, .ref u] (wX x y cI cJ cZ C N S Qk Z ++ [(u, .inl (cJ, 1, .inr (.inl U)))]) (g_eq (some (.int (nI 0))) (wX x y cI cJ cZ (c2 C 10 0 v) N S Qk Z ++ [(u, .inl (cJ, 1, .inr (.inl (vp_updL U 0 ((C 10 0).toInt64)))))])) := by
  refine g_bodyW RL [(0, .ref (x 0)), (1, .int v), (2, .ref u)] kH_L rfl (Nat.le_of_ble_eq_true rfl) rfl hB ?_
  intro p e s m args below meth c A X Y hT hr hlk hmn Q hQ
  refine g_aload_n X 2 dL_rain_0 rfl rfl ?_
  refine g_iconst X (v := nI 0) dL_rain_1 (by decide +kernel) ?_
  refine g_aload_n X 0 dL_rain_2 rfl rfl ?_
  refine g_iload_n X 1 dL_rain_3 rfl rfl ?_
  obtain ⟨C1, eC1⟩ : ∃ z : Cf, z = (c2 C 10 0 v) := ⟨_, rfl⟩
  refine g_callV X (As := [.int v]) (rest := [.int (nI 0), .ref u]) (m_X6_rain l D cI cJ cZ x y C N S Qk Z v hc0) kM_L_22 kI_yX6_rain kS_yX6_rain kZ_RX6 kC_yX6_rain hV_X6_rain rfl rfl rfl 0 rfl (ci := 6) rfl ⟨Nat.le_of_ble_eq_true rfl, Nat.le_of_ble_eq_true rfl⟩ ⟨Nat.le_of_ble_eq_true rfl, Nat.le_of_ble_eq_true rfl⟩ (Nat.le_of_ble_eq_true rfl) dL_rain_4 rfl (em_I 0 36 36 0) (em_C (by decide) (Nat.le_of_ble_eq_true rfl) rfl) (em_nd (by decide)) (g_kk1 (w2 := wX x y cI cJ cZ C1 N S Qk Z ++ [(u, .inl (cJ, 1, .inr (.inl U)))]) (by rw [eC1]; exact (em3 0 36 36 0 (by decide) (Nat.le_of_ble_eq_true rfl) rfl rfl rfl)) ?_)
  refine g_i2l X (v := (C 10 0).toInt64) dL_rain_7 rfl ?_
  obtain ⟨U2, eU2⟩ : ∃ z : Nat → Int64, z = vp_updL U 0 ((C 10 0).toInt64) := ⟨_, rfl⟩
  refine g_last X (ws' := wX x y cI cJ cZ C1 N S Qk Z ++ [(u, .inl (cJ, 1, .inr (.inl U2)))]) 36 rfl (0) rfl (by omega) (Nat.le_of_ble_eq_true rfl) dL_rain_8 (by rw [eU2]; first | done | (rfl)) ?_
  refine g_goto X (tgt := 15) dL_rain_9 (by decide) ?_
  refine g_iconst X (v := nI 0) dL_rain_15 (by decide +kernel) ?_
  refine g_iret X hr hlk hQ dL_rain_16 ?_
  show g_eq _ _ _ _
  try rw [eU2]
  try rw [eC1]
  exact ⟨rfl, rfl⟩
abbrev rm_L_rainX : Room := { frames := 9, cells := 1, slots := 6, locals := 146 }
set_option maxRecDepth 100000 in
set_option maxHeartbeats 4000000 in
theorem m_L_rainX (l : Launch) (hl0 : l.stackTraces = false) (D : va_G) (cI cJ cZ : ClassId) (B0 : Nat) (x : Nat → Nat) (y : Nat) (C : Cf) (N : Nat → Nat) (S : St) (Qk : Nat → Int64) (Z : St) (u : Nat) (U : Nat → Int64) (v : Int32)  (hc1 : ¬ cR1 v (nI 0) (nI 500) = 0) (hB : g_Bw B0 (wX x y cI cJ cZ C N S Qk Z ++ [(u, .inl (cJ, 1, .inr (.inl U)))])) : g_CtW l D cI cJ cZ B0 yL_rain cL_rain 4 (some .int) [(0, 9, 12, 15)] rm_L_rainX 1 6 [.ref (x 0), .int v, .ref u] (wX x y cI cJ cZ C N S Qk Z ++ [(u, .inl (cJ, 1, .inr (.inl U)))]) (g_eq (some (.int (nI (cR1 v (nI 0) (nI 500))))) (wX x y cI cJ cZ C N S Qk Z ++ [(u, .inl (cJ, 1, .inr (.inl U)))])) := by
  refine g_bodyW RL [(0, .ref (x 0)), (1, .int v), (2, .ref u)] kH_L rfl (Nat.le_of_ble_eq_true rfl) rfl hB ?_
  intro p e s m args below meth c A X Y hT hr hlk hmn Q hQ
  refine g_aload_n X 2 dL_rain_0 rfl rfl ?_
  refine g_iconst X (v := nI 0) dL_rain_1 (by decide +kernel) ?_
  refine g_aload_n X 0 dL_rain_2 rfl rfl ?_
  refine g_iload_n X 1 dL_rain_3 rfl rfl ?_
  have hle : cR1 v (nI 0) (nI 500) ≤ 1 := by unfold cR1; (repeat' split) <;> omega
  rcases (show cR1 v (nI 0) (nI 500) = 1 by omega) with hk
  · --
    have hE : eC (cR1 v (nI 0) (nI 500)) = xA := by rw [hk]; rfl
    have hm := m_X6_rainX l hl0 D cI cJ cZ B0 x y C N S Qk Z v hc1 (fun k q h => hB k q ((List.getElem?_append_left (List.getElem?_eq_some_iff.mp h).1).trans h))
    rw [hE] at hm
    refine g_callVC X Y (As := [.int v]) (rest := [.int (nI 0), .ref u]) hm kM_L_22 kI_yX6_rain kS_yX6_rain kZ_RX6 kC_yX6_rain hV_X6_rain rfl rfl rfl 0 rfl (ci := 6) rfl ⟨Nat.le_of_ble_eq_true rfl, Nat.le_of_ble_eq_true rfl⟩ ⟨Nat.le_of_ble_eq_true rfl, Nat.le_of_ble_eq_true rfl⟩ (Nat.le_of_ble_eq_true rfl) dL_rain_4 rfl (em_I 0 36 36 0) (em_C (by decide) (Nat.le_of_ble_eq_true rfl) rfl) (em_nd (by decide)) (em3 0 36 36 0 (by decide) (Nat.le_of_ble_eq_true rfl) rfl rfl rfl) [] ⟨0, 9, 12, 15⟩ [] hT (by decide) (fun z hz => by simp at hz) (by decide) (by decide) kQ_L_15 (fun q9 => ?_)
    refine g_astore_n X [(3, .ref q9), (0, .ref (x 0)), (1, .int v), (2, .ref u)] dL_rain_12 rfl (Nat.le_of_ble_eq_true rfl) rfl ?_
    refine g_iconst X (v := nI 1) dL_rain_13 (by decide +kernel) ?_
    refine g_iret X hr hlk hQ dL_rain_14 ?_
    show g_eq _ _ _ _
    refine ⟨?_, rfl⟩
    rw [hk]
