theorem hV_L_well : yL_well.cls = RL ∧ yL_well.cls ≠ "java/lang/invoke/MethodHandle" ∧ yL_well.cls ≠ "java/lang/invoke/VarHandle" ∧ (parseMethodDescriptor yL_well.desc).map (fun d => d.parameters.length) = some 4 := by decide +kernel
abbrev rm_L_well : Room := { frames := 2, cells := 0, slots := 0, locals := 45 }
set_option maxRecDepth 100000 in
set_option maxHeartbeats 4000000 in
theorem m_L_well (l : Launch) (hl0 : l.stackTraces = false) (D : va_G) (cI cJ cZ : ClassId) (B0 : Nat) (x : Nat → Nat) (y : Nat) (C : Cf) (N : Nat → Nat) (S : St) (Qk : Nat → Int64) (Z : St) (u : Nat) (U : Nat → Int64) (v : Int32) (r : Bool) (hC : Cok C N) (hc0 : cL1 (N 0) v = 0) (hB : g_Bw B0 (wX x y cI cJ cZ C N S Qk Z ++ [(u, .inl (cJ, 1, .inr (.inl U)))])) : g_CtW l D cI cJ cZ B0 yL_well cL_well 5 (some .int) [(0, 10, 13, 13), (0, 10, 17, 17)] rm_L_well 0 0 [.ref (x 0), .int v, .int (bI (r)), .ref u] (wX x y cI cJ cZ C N S Qk Z ++ [(u, .inl (cJ, 1, .inr (.inl U)))]) (g_eq (some (.int (nI 0))) (wX x y cI cJ cZ (c2 (c2 C 2 (N 0) v) 3 (N 0) (bI r)) (n2 N 0 (N 0 + 1)) (u2 S 8 (N 0) (-1)) Qk Z ++ [(u, .inl (cJ, 1, .inr (.inl (vp_updL U 0 ((nI (N 0)).toInt64)))))])) := by
  refine g_bodyW RL [(0, .ref (x 0)), (1, .int v), (2, .int (bI (r))), (3, .ref u)] kH_L rfl (Nat.le_of_ble_eq_true rfl) rfl hB ?_
  intro p e s m args below meth c A X Y hT hr hlk hmn Q hQ
  refine g_aload_n X 3 dL_well_0 rfl rfl ?_
  refine g_iconst X (v := nI 0) dL_well_1 (by decide +kernel) ?_
  refine g_aload_n X 0 dL_well_2 rfl rfl ?_
  refine g_iload_n X 1 dL_well_3 rfl rfl ?_
  refine g_iload_n X 2 dL_well_4 rfl rfl ?_
  obtain ⟨C1, eC1⟩ : ∃ z : Cf, z = (c2 (c2 C 2 (N 0) v) 3 (N 0) (bI r)) := ⟨_, rfl⟩
  obtain ⟨N2, eN2⟩ : ∃ z : Nat → Nat, z = (n2 N 0 (N 0 + 1)) := ⟨_, rfl⟩
  obtain ⟨S3, eS3⟩ : ∃ z : St, z = (u2 S 8 (N 0) (-1)) := ⟨_, rfl⟩
  refine g_callV X (As := [.int v, .int (bI (r))]) (rest := [.int (nI 0), .ref u]) (m_X6_well l D cI cJ cZ x y C N S Qk Z v r hC hc0) kM_L_26 kI_yX6_well kS_yX6_well kZ_RX6 kC_yX6_well hV_X6_well rfl rfl rfl 0 rfl (ci := 6) rfl ⟨Nat.le_of_ble_eq_true rfl, Nat.le_of_ble_eq_true rfl⟩ ⟨Nat.le_of_ble_eq_true rfl, Nat.le_of_ble_eq_true rfl⟩ (Nat.le_of_ble_eq_true rfl) dL_well_5 rfl (em_I 0 36 36 0) (em_C (by decide) (Nat.le_of_ble_eq_true rfl) rfl) (em_nd (by decide)) (g_kk1 (w2 := wX x y cI cJ cZ C1 N2 S3 Qk Z ++ [(u, .inl (cJ, 1, .inr (.inl U)))]) (by rw [eS3]; rw [eN2]; rw [eC1]; exact (em3 0 36 36 0 (by decide) (Nat.le_of_ble_eq_true rfl) rfl rfl rfl)) ?_)
  refine g_i2l X (v := (nI (N 0)).toInt64) dL_well_8 rfl ?_
  obtain ⟨U4, eU4⟩ : ∃ z : Nat → Int64, z = vp_updL U 0 ((nI (N 0)).toInt64) := ⟨_, rfl⟩
  refine g_last X (ws' := wX x y cI cJ cZ C1 N2 S3 Qk Z ++ [(u, .inl (cJ, 1, .inr (.inl U4)))]) 36 rfl (0) rfl (by omega) (Nat.le_of_ble_eq_true rfl) dL_well_9 (by rw [eU4]; first | done | (rfl)) ?_
  refine g_goto X (tgt := 21) dL_well_10 (by decide) ?_
  refine g_iconst X (v := nI 0) dL_well_21 (by decide +kernel) ?_
  refine g_iret X hr hlk hQ dL_well_22 ?_
  show g_eq _ _ _ _
  try rw [eU4]
  try rw [eS3]
  try rw [eN2]
  try rw [eC1]
  exact ⟨rfl, rfl⟩
abbrev rm_L_wellX : Room := { frames := 8, cells := 1, slots := 6, locals := 125 }
set_option maxRecDepth 100000 in
set_option maxHeartbeats 4000000 in
theorem m_L_wellX (l : Launch) (hl0 : l.stackTraces = false) (D : va_G) (cI cJ cZ : ClassId) (B0 : Nat) (x : Nat → Nat) (y : Nat) (C : Cf) (N : Nat → Nat) (S : St) (Qk : Nat → Int64) (Z : St) (u : Nat) (U : Nat → Int64) (v : Int32) (r : Bool) (hC : Cok C N) (hc1 : ¬ cL1 (N 0) v = 0) (hB : g_Bw B0 (wX x y cI cJ cZ C N S Qk Z ++ [(u, .inl (cJ, 1, .inr (.inl U)))])) : g_CtW l D cI cJ cZ B0 yL_well cL_well 5 (some .int) [(0, 10, 13, 13), (0, 10, 17, 17)] rm_L_wellX 1 6 [.ref (x 0), .int v, .int (bI (r)), .ref u] (wX x y cI cJ cZ C N S Qk Z ++ [(u, .inl (cJ, 1, .inr (.inl U)))]) (g_eq (some (.int (nI (cL1 (N 0) v)))) (wX x y cI cJ cZ C N S Qk Z ++ [(u, .inl (cJ, 1, .inr (.inl U)))])) := by
  refine g_bodyW RL [(0, .ref (x 0)), (1, .int v), (2, .int (bI (r))), (3, .ref u)] kH_L rfl (Nat.le_of_ble_eq_true rfl) rfl hB ?_
  intro p e s m args below meth c A X Y hT hr hlk hmn Q hQ
  refine g_aload_n X 3 dL_well_0 rfl rfl ?_
  refine g_iconst X (v := nI 0) dL_well_1 (by decide +kernel) ?_
  refine g_aload_n X 0 dL_well_2 rfl rfl ?_
  refine g_iload_n X 1 dL_well_3 rfl rfl ?_
  refine g_iload_n X 2 dL_well_4 rfl rfl ?_
  have hle : cL1 (N 0) v ≤ 2 := by unfold cL1; (repeat' split) <;> omega
  rcases (show cL1 (N 0) v = 1 ∨ cL1 (N 0) v = 2 by omega) with hk | hk
  · --
    have hE : eB (cL1 (N 0) v) = xI := by rw [hk]; rfl
    have hm := m_X6_wellX l hl0 D cI cJ cZ B0 x y C N S Qk Z v r hC hc1 (fun k q h => hB k q ((List.getElem?_append_left (List.getElem?_eq_some_iff.mp h).1).trans h))
    rw [hE] at hm
    refine g_callVC X Y (As := [.int v, .int (bI (r))]) (rest := [.int (nI 0), .ref u]) hm kM_L_26 kI_yX6_well kS_yX6_well kZ_RX6 kC_yX6_well hV_X6_well rfl rfl rfl 0 rfl (ci := 6) rfl ⟨Nat.le_of_ble_eq_true rfl, Nat.le_of_ble_eq_true rfl⟩ ⟨Nat.le_of_ble_eq_true rfl, Nat.le_of_ble_eq_true rfl⟩ (Nat.le_of_ble_eq_true rfl) dL_well_5 rfl (em_I 0 36 36 0) (em_C (by decide) (Nat.le_of_ble_eq_true rfl) rfl) (em_nd (by decide)) (em3 0 36 36 0 (by decide) (Nat.le_of_ble_eq_true rfl) rfl rfl rfl) [] ⟨0, 10, 13, 13⟩ [⟨0, 10, 17, 17⟩] hT (by decide) (fun z hz => by simp at hz) (by decide) (by decide) kQ_L_13 (fun q9 => ?_)
    refine g_astore X [(4, .ref q9), (0, .ref (x 0)), (1, .int v), (2, .int (bI (r))), (3, .ref u)] dL_well_13 (Nat.le_of_ble_eq_true rfl) rfl ?_
    refine g_iconst X (v := nI 1) dL_well_15 (by decide +kernel) ?_
    refine g_iret X hr hlk hQ dL_well_16 ?_
    show g_eq _ _ _ _
    refine ⟨?_, rfl⟩
    rw [hk]
  · --
    have hE : eB (cL1 (N 0) v) = xS := by rw [hk]; rfl
    have hm := m_X6_wellX l hl0 D cI cJ cZ B0 x y C N S Qk Z v r hC hc1 (fun k q h => hB k q ((List.getElem?_append_left (List.getElem?_eq_some_iff.mp h).1).trans h))
    rw [hE] at hm
    refine g_callVC X Y (As := [.int v, .int (bI (r))]) (rest := [.int (nI 0), .ref u]) hm kM_L_26 kI_yX6_well kS_yX6_well kZ_RX6 kC_yX6_well hV_X6_well rfl rfl rfl 0 rfl (ci := 6) rfl ⟨Nat.le_of_ble_eq_true rfl, Nat.le_of_ble_eq_true rfl⟩ ⟨Nat.le_of_ble_eq_true rfl, Nat.le_of_ble_eq_true rfl⟩ (Nat.le_of_ble_eq_true rfl) dL_well_5 rfl (em_I 0 36 36 0) (em_C (by decide) (Nat.le_of_ble_eq_true rfl) rfl) (em_nd (by decide)) (em3 0 36 36 0 (by decide) (Nat.le_of_ble_eq_true rfl) rfl rfl rfl) [⟨0, 10, 13, 13⟩] ⟨0, 10, 17, 17⟩ [] hT (by decide) (fun z hz => by simp only [List.mem_cons, List.not_mem_nil, or_false] at hz; subst hz; exact ⟨by decide, xI, by decide, by decide, kQ_L_13⟩) (by decide) (by decide) kQ_L_17 (fun q9 => ?_)
    refine g_astore X [(4, .ref q9), (0, .ref (x 0)), (1, .int v), (2, .int (bI (r))), (3, .ref u)] dL_well_17 (Nat.le_of_ble_eq_true rfl) rfl ?_
    refine g_iconst X (v := nI 2) dL_well_19 (by decide +kernel) ?_
    refine g_iret X hr hlk hQ dL_well_20 ?_
    show g_eq _ _ _ _
    refine ⟨?_, rfl⟩
    rw [hk]
theorem hV_L_open : yL_open.cls = RL ∧ yL_open.cls ≠ "java/lang/invoke/MethodHandle" ∧ yL_open.cls ≠ "java/lang/invoke/VarHandle" ∧ (parseMethodDescriptor yL_open.desc).map (fun d => d.parameters.length) = some 4 := by decide +kernel
abbrev rm_L_open : Room := { frames := 3, cells := 0, slots := 0, locals := 65 }
set_option maxRecDepth 100000 in
set_option maxHeartbeats 4000000 in
theorem m_L_open (l : Launch) (hl0 : l.stackTraces = false) (D : va_G) (cI cJ cZ : ClassId) (B0 : Nat) (x : Nat → Nat) (y : Nat) (C : Cf) (N : Nat → Nat) (S : St) (Qk : Nat → Int64) (Z : St) (u : Nat) (U : Nat → Int64) (v q : Int32) (hC : Cok C N) (hc0 : cO2 C (N 0) v q = 0) (hB : g_Bw B0 (wX x y cI cJ cZ C N S Qk Z ++ [(u, .inl (cJ, 1, .inr (.inl U)))])) : g_CtW l D cI cJ cZ B0 yL_open cL_open 5 (some .int) [(0, 10, 13, 13), (0, 10, 17, 15)] rm_L_open 0 0 [.ref (x 0), .int v, .int q, .ref u] (wX x y cI cJ cZ C N S Qk Z ++ [(u, .inl (cJ, 1, .inr (.inl U)))]) (g_eq (some (.int (nI 0))) (wX x y cI cJ cZ (c2 C 4 (nN v) q) N S Qk Z ++ [(u, .inl (cJ, 1, .inr (.inl (vp_updL U 0 ((C 4 (nN v)).toInt64)))))])) := by
  refine g_bodyW RL [(0, .ref (x 0)), (1, .int v), (2, .int q), (3, .ref u)] kH_L rfl (Nat.le_of_ble_eq_true rfl) rfl hB ?_
  intro p e s m args below meth c A X Y hT hr hlk hmn Q hQ
  refine g_aload_n X 3 dL_open_0 rfl rfl ?_
  refine g_iconst X (v := nI 0) dL_open_1 (by decide +kernel) ?_
  refine g_aload_n X 0 dL_open_2 rfl rfl ?_
  refine g_iload_n X 1 dL_open_3 rfl rfl ?_
  refine g_iload_n X 2 dL_open_4 rfl rfl ?_
  obtain ⟨C1, eC1⟩ : ∃ z : Cf, z = (c2 C 4 (nN v) q) := ⟨_, rfl⟩
  refine g_callV X (As := [.int v, .int q]) (rest := [.int (nI 0), .ref u]) (m_X6_open l D cI cJ cZ x y C N S Qk Z v q hC hc0) kM_L_30 kI_yX6_open kS_yX6_open kZ_RX6 kC_yX6_open hV_X6_open rfl rfl rfl 0 rfl (ci := 6) rfl ⟨Nat.le_of_ble_eq_true rfl, Nat.le_of_ble_eq_true rfl⟩ ⟨Nat.le_of_ble_eq_true rfl, Nat.le_of_ble_eq_true rfl⟩ (Nat.le_of_ble_eq_true rfl) dL_open_5 rfl (em_I 0 36 36 0) (em_C (by decide) (Nat.le_of_ble_eq_true rfl) rfl) (em_nd (by decide)) (g_kk1 (w2 := wX x y cI cJ cZ C1 N S Qk Z ++ [(u, .inl (cJ, 1, .inr (.inl U)))]) (by rw [eC1]; exact (em3 0 36 36 0 (by decide) (Nat.le_of_ble_eq_true rfl) rfl rfl rfl)) ?_)
  refine g_i2l X (v := (C 4 (nN v)).toInt64) dL_open_8 rfl ?_
  obtain ⟨U2, eU2⟩ : ∃ z : Nat → Int64, z = vp_updL U 0 ((C 4 (nN v)).toInt64) := ⟨_, rfl⟩
  refine g_last X (ws' := wX x y cI cJ cZ C1 N S Qk Z ++ [(u, .inl (cJ, 1, .inr (.inl U2)))]) 36 rfl (0) rfl (by omega) (Nat.le_of_ble_eq_true rfl) dL_open_9 (by rw [eU2]; first | done | (rfl)) ?_
  refine g_goto X (tgt := 21) dL_open_10 (by decide) ?_
  refine g_iconst X (v := nI 0) dL_open_21 (by decide +kernel) ?_
  refine g_iret X hr hlk hQ dL_open_22 ?_
  show g_eq _ _ _ _
  try rw [eU2]
  try rw [eC1]
  exact ⟨rfl, rfl⟩
abbrev rm_L_openX : Room := { frames := 9, cells := 1, slots := 6, locals := 147 }
set_option maxRecDepth 100000 in
set_option maxHeartbeats 4000000 in
theorem m_L_openX (l : Launch) (hl0 : l.stackTraces = false) (D : va_G) (cI cJ cZ : ClassId) (B0 : Nat) (x : Nat → Nat) (y : Nat) (C : Cf) (N : Nat → Nat) (S : St) (Qk : Nat → Int64) (Z : St) (u : Nat) (U : Nat → Int64) (v q : Int32) (hC : Cok C N) (hc1 : ¬ cO2 C (N 0) v q = 0) (hB : g_Bw B0 (wX x y cI cJ cZ C N S Qk Z ++ [(u, .inl (cJ, 1, .inr (.inl U)))])) : g_CtW l D cI cJ cZ B0 yL_open cL_open 5 (some .int) [(0, 10, 13, 13), (0, 10, 17, 15)] rm_L_openX 1 6 [.ref (x 0), .int v, .int q, .ref u] (wX x y cI cJ cZ C N S Qk Z ++ [(u, .inl (cJ, 1, .inr (.inl U)))]) (g_eq (some (.int (nI (cO2 C (N 0) v q)))) (wX x y cI cJ cZ C N S Qk Z ++ [(u, .inl (cJ, 1, .inr (.inl U)))])) := by
  refine g_bodyW RL [(0, .ref (x 0)), (1, .int v), (2, .int q), (3, .ref u)] kH_L rfl (Nat.le_of_ble_eq_true rfl) rfl hB ?_
  intro p e s m args below meth c A X Y hT hr hlk hmn Q hQ
  refine g_aload_n X 3 dL_open_0 rfl rfl ?_
  refine g_iconst X (v := nI 0) dL_open_1 (by decide +kernel) ?_
  refine g_aload_n X 0 dL_open_2 rfl rfl ?_
  refine g_iload_n X 1 dL_open_3 rfl rfl ?_
  refine g_iload_n X 2 dL_open_4 rfl rfl ?_
  have hle : cO2 C (N 0) v q ≤ 2 := by unfold cO2; (repeat' split) <;> omega
  rcases (show cO2 C (N 0) v q = 1 ∨ cO2 C (N 0) v q = 2 by omega) with hk | hk
  · --
    have hE : eA (cO2 C (N 0) v q) = xI := by rw [hk]; rfl
    have hm := m_X6_openX l hl0 D cI cJ cZ B0 x y C N S Qk Z v q hC hc1 (fun k q h => hB k q ((List.getElem?_append_left (List.getElem?_eq_some_iff.mp h).1).trans h))
    rw [hE] at hm
    refine g_callVC X Y (As := [.int v, .int q]) (rest := [.int (nI 0), .ref u]) hm kM_L_30 kI_yX6_open kS_yX6_open kZ_RX6 kC_yX6_open hV_X6_open rfl rfl rfl 0 rfl (ci := 6) rfl ⟨Nat.le_of_ble_eq_true rfl, Nat.le_of_ble_eq_true rfl⟩ ⟨Nat.le_of_ble_eq_true rfl, Nat.le_of_ble_eq_true rfl⟩ (Nat.le_of_ble_eq_true rfl) dL_open_5 rfl (em_I 0 36 36 0) (em_C (by decide) (Nat.le_of_ble_eq_true rfl) rfl) (em_nd (by decide)) (em3 0 36 36 0 (by decide) (Nat.le_of_ble_eq_true rfl) rfl rfl rfl) [] ⟨0, 10, 13, 13⟩ [⟨0, 10, 17, 15⟩] hT (by decide) (fun z hz => by simp at hz) (by decide) (by decide) kQ_L_13 (fun q9 => ?_)
    refine g_astore X [(4, .ref q9), (0, .ref (x 0)), (1, .int v), (2, .int q), (3, .ref u)] dL_open_13 (Nat.le_of_ble_eq_true rfl) rfl ?_
    refine g_iconst X (v := nI 1) dL_open_15 (by decide +kernel) ?_
    refine g_iret X hr hlk hQ dL_open_16 ?_
    show g_eq _ _ _ _
    refine ⟨?_, rfl⟩
    rw [hk]
  · --
    have hE : eA (cO2 C (N 0) v q) = xA := by rw [hk]; rfl
    have hm := m_X6_openX l hl0 D cI cJ cZ B0 x y C N S Qk Z v q hC hc1 (fun k q h => hB k q ((List.getElem?_append_left (List.getElem?_eq_some_iff.mp h).1).trans h))
    rw [hE] at hm
    refine g_callVC X Y (As := [.int v, .int q]) (rest := [.int (nI 0), .ref u]) hm kM_L_30 kI_yX6_open kS_yX6_open kZ_RX6 kC_yX6_open hV_X6_open rfl rfl rfl 0 rfl (ci := 6) rfl ⟨Nat.le_of_ble_eq_true rfl, Nat.le_of_ble_eq_true rfl⟩ ⟨Nat.le_of_ble_eq_true rfl, Nat.le_of_ble_eq_true rfl⟩ (Nat.le_of_ble_eq_true rfl) dL_open_5 rfl (em_I 0 36 36 0) (em_C (by decide) (Nat.le_of_ble_eq_true rfl) rfl) (em_nd (by decide)) (em3 0 36 36 0 (by decide) (Nat.le_of_ble_eq_true rfl) rfl rfl rfl) [⟨0, 10, 13, 13⟩] ⟨0, 10, 17, 15⟩ [] hT (by decide) (fun z hz => by simp only [List.mem_cons, List.not_mem_nil, or_false] at hz; subst hz; exact ⟨by decide, xI, by decide, by decide, kQ_L_13⟩) (by decide) (by decide) kQ_L_15 (fun q9 => ?_)
    refine g_astore X [(4, .ref q9), (0, .ref (x 0)), (1, .int v), (2, .int q), (3, .ref u)] dL_open_17 (Nat.le_of_ble_eq_true rfl) rfl ?_
    refine g_iconst X (v := nI 2) dL_open_19 (by decide +kernel) ?_
    refine g_iret X hr hlk hQ dL_open_20 ?_
    show g_eq _ _ _ _
    refine ⟨?_, rfl⟩
    rw [hk]
theorem hV_L_clean : yL_clean.cls = RL ∧ yL_clean.cls ≠ "java/lang/invoke/MethodHandle" ∧ yL_clean.cls ≠ "java/lang/invoke/VarHandle" ∧ (parseMethodDescriptor yL_clean.desc).map (fun d => d.parameters.length) = some 3 := by decide +kernel
abbrev rm_L_clean : Room := { frames := 2, cells := 0, slots := 0, locals := 43 }
set_option maxRecDepth 100000 in
set_option maxHeartbeats 4000000 in
theorem m_L_clean (l : Launch) (hl0 : l.stackTraces = false) (D : va_G) (cI cJ cZ : ClassId) (B0 : Nat) (x : Nat → Nat) (y : Nat) (C : Cf) (N : Nat → Nat) (S : St) (Qk : Nat → Int64) (Z : St) (u : Nat) (U : Nat → Int64) (v : Int32) (hC : Cok C N) (hc0 : cW1 C (N 0) v = 0) (hB : g_Bw B0 (wX x y cI cJ cZ C N S Qk Z ++ [(u, .inl (cJ, 1, .inr (.inl U)))])) : g_CtW l D cI cJ cZ B0 yL_clean cL_clean 4 (some .int) [(0, 9, 12, 13), (0, 9, 15, 17)] rm_L_clean 0 0 [.ref (x 0), .int v, .ref u] (wX x y cI cJ cZ C N S Qk Z ++ [(u, .inl (cJ, 1, .inr (.inl U)))]) (g_eq (some (.int (nI 0))) (wX x y cI cJ cZ C N (u2 S 4 (nN v) 0) Qk Z ++ [(u, .inl (cJ, 1, .inr (.inl (vp_updL U 0 (((S 4 (nN v)).toInt32).toInt64)))))])) := by
  refine g_bodyW RL [(0, .ref (x 0)), (1, .int v), (2, .ref u)] kH_L rfl (Nat.le_of_ble_eq_true rfl) rfl hB ?_
  intro p e s m args below meth c A X Y hT hr hlk hmn Q hQ
  refine g_aload_n X 2 dL_clean_0 rfl rfl ?_
  refine g_iconst X (v := nI 0) dL_clean_1 (by decide +kernel) ?_
  refine g_aload_n X 0 dL_clean_2 rfl rfl ?_
  refine g_iload_n X 1 dL_clean_3 rfl rfl ?_
  obtain ⟨S1, eS1⟩ : ∃ z : St, z = (u2 S 4 (nN v) 0) := ⟨_, rfl⟩
  refine g_callV X (As := [.int v]) (rest := [.int (nI 0), .ref u]) (m_X6_clean l D cI cJ cZ x y C N S Qk Z v hC hc0) kM_L_34 kI_yX6_clean kS_yX6_clean kZ_RX6 kC_yX6_clean hV_X6_clean rfl rfl rfl 0 rfl (ci := 6) rfl ⟨Nat.le_of_ble_eq_true rfl, Nat.le_of_ble_eq_true rfl⟩ ⟨Nat.le_of_ble_eq_true rfl, Nat.le_of_ble_eq_true rfl⟩ (Nat.le_of_ble_eq_true rfl) dL_clean_4 rfl (em_I 0 36 36 0) (em_C (by decide) (Nat.le_of_ble_eq_true rfl) rfl) (em_nd (by decide)) (g_kk1 (w2 := wX x y cI cJ cZ C N S1 Qk Z ++ [(u, .inl (cJ, 1, .inr (.inl U)))]) (by rw [eS1]; exact (em3 0 36 36 0 (by decide) (Nat.le_of_ble_eq_true rfl) rfl rfl rfl)) ?_)
  refine g_i2l X (v := ((S 4 (nN v)).toInt32).toInt64) dL_clean_7 rfl ?_
  obtain ⟨U2, eU2⟩ : ∃ z : Nat → Int64, z = vp_updL U 0 (((S 4 (nN v)).toInt32).toInt64) := ⟨_, rfl⟩
  refine g_last X (ws' := wX x y cI cJ cZ C N S1 Qk Z ++ [(u, .inl (cJ, 1, .inr (.inl U2)))]) 36 rfl (0) rfl (by omega) (Nat.le_of_ble_eq_true rfl) dL_clean_8 (by rw [eU2]; first | done | (rfl)) ?_
  refine g_goto X (tgt := 18) dL_clean_9 (by decide) ?_
  refine g_iconst X (v := nI 0) dL_clean_18 (by decide +kernel) ?_
  refine g_iret X hr hlk hQ dL_clean_19 ?_
  show g_eq _ _ _ _
  try rw [eU2]
  try rw [eS1]
  exact ⟨rfl, rfl⟩
abbrev rm_L_cleanX : Room := { frames := 8, cells := 1, slots := 6, locals := 125 }
set_option maxRecDepth 100000 in
set_option maxHeartbeats 4000000 in
theorem m_L_cleanX (l : Launch) (hl0 : l.stackTraces = false) (D : va_G) (cI cJ cZ : ClassId) (B0 : Nat) (x : Nat → Nat) (y : Nat) (C : Cf) (N : Nat → Nat) (S : St) (Qk : Nat → Int64) (Z : St) (u : Nat) (U : Nat → Int64) (v : Int32) (hC : Cok C N) (hc1 : ¬ cW1 C (N 0) v = 0) (hB : g_Bw B0 (wX x y cI cJ cZ C N S Qk Z ++ [(u, .inl (cJ, 1, .inr (.inl U)))])) : g_CtW l D cI cJ cZ B0 yL_clean cL_clean 4 (some .int) [(0, 9, 12, 13), (0, 9, 15, 17)] rm_L_cleanX 1 6 [.ref (x 0), .int v, .ref u] (wX x y cI cJ cZ C N S Qk Z ++ [(u, .inl (cJ, 1, .inr (.inl U)))]) (g_eq (some (.int (nI (cW1 C (N 0) v)))) (wX x y cI cJ cZ C N S Qk Z ++ [(u, .inl (cJ, 1, .inr (.inl U)))])) := by
  refine g_bodyW RL [(0, .ref (x 0)), (1, .int v), (2, .ref u)] kH_L rfl (Nat.le_of_ble_eq_true rfl) rfl hB ?_
  intro p e s m args below meth c A X Y hT hr hlk hmn Q hQ
  refine g_aload_n X 2 dL_clean_0 rfl rfl ?_
  refine g_iconst X (v := nI 0) dL_clean_1 (by decide +kernel) ?_
  refine g_aload_n X 0 dL_clean_2 rfl rfl ?_
  refine g_iload_n X 1 dL_clean_3 rfl rfl ?_
  have hle : cW1 C (N 0) v ≤ 2 := by unfold cW1; (repeat' split) <;> omega
  rcases (show cW1 C (N 0) v = 1 ∨ cW1 C (N 0) v = 2 by omega) with hk | hk
  · --
    have hE : eB (cW1 C (N 0) v) = xI := by rw [hk]; rfl
    have hm := m_X6_cleanX l hl0 D cI cJ cZ B0 x y C N S Qk Z v hC hc1 (fun k q h => hB k q ((List.getElem?_append_left (List.getElem?_eq_some_iff.mp h).1).trans h))
    rw [hE] at hm
    refine g_callVC X Y (As := [.int v]) (rest := [.int (nI 0), .ref u]) hm kM_L_34 kI_yX6_clean kS_yX6_clean kZ_RX6 kC_yX6_clean hV_X6_clean rfl rfl rfl 0 rfl (ci := 6) rfl ⟨Nat.le_of_ble_eq_true rfl, Nat.le_of_ble_eq_true rfl⟩ ⟨Nat.le_of_ble_eq_true rfl, Nat.le_of_ble_eq_true rfl⟩ (Nat.le_of_ble_eq_true rfl) dL_clean_4 rfl (em_I 0 36 36 0) (em_C (by decide) (Nat.le_of_ble_eq_true rfl) rfl) (em_nd (by decide)) (em3 0 36 36 0 (by decide) (Nat.le_of_ble_eq_true rfl) rfl rfl rfl) [] ⟨0, 9, 12, 13⟩ [⟨0, 9, 15, 17⟩] hT (by decide) (fun z hz => by simp at hz) (by decide) (by decide) kQ_L_13 (fun q9 => ?_)
    refine g_astore_n X [(3, .ref q9), (0, .ref (x 0)), (1, .int v), (2, .ref u)] dL_clean_12 rfl (Nat.le_of_ble_eq_true rfl) rfl ?_
    refine g_iconst X (v := nI 1) dL_clean_13 (by decide +kernel) ?_
    refine g_iret X hr hlk hQ dL_clean_14 ?_
    show g_eq _ _ _ _
    refine ⟨?_, rfl⟩
    rw [hk]
  · --
    have hE : eB (cW1 C (N 0) v) = xS := by rw [hk]; rfl
    have hm := m_X6_cleanX l hl0 D cI cJ cZ B0 x y C N S Qk Z v hC hc1 (fun k q h => hB k q ((List.getElem?_append_left (List.getElem?_eq_some_iff.mp h).1).trans h))
    rw [hE] at hm
    refine g_callVC X Y (As := [.int v]) (rest := [.int (nI 0), .ref u]) hm kM_L_34 kI_yX6_clean kS_yX6_clean kZ_RX6 kC_yX6_clean hV_X6_clean rfl rfl rfl 0 rfl (ci := 6) rfl ⟨Nat.le_of_ble_eq_true rfl, Nat.le_of_ble_eq_true rfl⟩ ⟨Nat.le_of_ble_eq_true rfl, Nat.le_of_ble_eq_true rfl⟩ (Nat.le_of_ble_eq_true rfl) dL_clean_4 rfl (em_I 0 36 36 0) (em_C (by decide) (Nat.le_of_ble_eq_true rfl) rfl) (em_nd (by decide)) (em3 0 36 36 0 (by decide) (Nat.le_of_ble_eq_true rfl) rfl rfl rfl) [⟨0, 9, 12, 13⟩] ⟨0, 9, 15, 17⟩ [] hT (by decide) (fun z hz => by simp only [List.mem_cons, List.not_mem_nil, or_false] at hz; subst hz; exact ⟨by decide, xI, by decide, by decide, kQ_L_13⟩) (by decide) (by decide) kQ_L_17 (fun q9 => ?_)
    refine g_astore_n X [(3, .ref q9), (0, .ref (x 0)), (1, .int v), (2, .ref u)] dL_clean_15 rfl (Nat.le_of_ble_eq_true rfl) rfl ?_
    refine g_iconst X (v := nI 2) dL_clean_16 (by decide +kernel) ?_
    refine g_iret X hr hlk hQ dL_clean_17 ?_
    show g_eq _ _ _ _
    refine ⟨?_, rfl⟩
    rw [hk]
