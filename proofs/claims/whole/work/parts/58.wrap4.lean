theorem hV_L_ofWell : yL_ofWell.cls = RL ∧ yL_ofWell.cls ≠ "java/lang/invoke/MethodHandle" ∧ yL_ofWell.cls ≠ "java/lang/invoke/VarHandle" ∧ (parseMethodDescriptor yL_ofWell.desc).map (fun d => d.parameters.length) = some 4 := by decide +kernel
abbrev rm_L_ofWell : Room := { frames := 3, cells := 0, slots := 0, locals := 64 }
set_option maxRecDepth 100000 in
set_option maxHeartbeats 4000000 in
theorem m_L_ofWell (l : Launch) (hl0 : l.stackTraces = false) (D : va_G) (cI cJ cZ : ClassId) (B0 : Nat) (x : Nat → Nat) (y : Nat) (C : Cf) (N : Nat → Nat) (S : St) (Qk : Nat → Int64) (Z : St) (u : Nat) (U : Nat → Int64) (v q : Int32) (hC : Cok C N) (hc0 : cI2 (N 0) v q (nI 0) (nI 6) = 0) (hB : g_Bw B0 (wX x y cI cJ cZ C N S Qk Z ++ [(u, .inl (cJ, 1, .inr (.inl U)))])) : g_CtW l D cI cJ cZ B0 yL_ofWell cL_ofWell 5 (some .int) [(0, 9, 12, 13), (0, 9, 16, 15)] rm_L_ofWell 0 0 [.ref (x 0), .int v, .int q, .ref u] (wX x y cI cJ cZ C N S Qk Z ++ [(u, .inl (cJ, 1, .inr (.inl U)))]) (g_eq (some (.int (nI 0))) (wX x y cI cJ cZ C N S Qk Z ++ [(u, .inl (cJ, 1, .inr (.inl (vp_updL U 0 ((tellW C S (nN v) (nN q)))))))])) := by
  refine g_bodyW RL [(0, .ref (x 0)), (1, .int v), (2, .int q), (3, .ref u)] kH_L rfl (Nat.le_of_ble_eq_true rfl) rfl hB ?_
  intro p e s m args below meth c A X Y hT hr hlk hmn Q hQ
  refine g_aload_n X 3 dL_ofWell_0 rfl rfl ?_
  refine g_iconst X (v := nI 0) dL_ofWell_1 (by decide +kernel) ?_
  refine g_aload_n X 0 dL_ofWell_2 rfl rfl ?_
  refine g_iload_n X 1 dL_ofWell_3 rfl rfl ?_
  refine g_iload_n X 2 dL_ofWell_4 rfl rfl ?_
  refine g_callV X (As := [.int v, .int q]) (rest := [.int (nI 0), .ref u]) (m_X6_ofWell l D cI cJ cZ x y C N S Qk Z v q hC hc0) kM_L_60 kI_yX6_ofWell kS_yX6_ofWell kZ_RX6 kC_yX6_ofWell hV_X6_ofWell rfl rfl rfl 0 rfl (ci := 6) rfl ⟨Nat.le_of_ble_eq_true rfl, Nat.le_of_ble_eq_true rfl⟩ ⟨Nat.le_of_ble_eq_true rfl, Nat.le_of_ble_eq_true rfl⟩ (Nat.le_of_ble_eq_true rfl) dL_ofWell_5 rfl (em_I 0 36 36 0) (em_C (by decide) (Nat.le_of_ble_eq_true rfl) rfl) (em_nd (by decide)) (g_kk1 (w2 := wX x y cI cJ cZ C N S Qk Z ++ [(u, .inl (cJ, 1, .inr (.inl U)))]) (em3 0 36 36 0 (by decide) (Nat.le_of_ble_eq_true rfl) rfl rfl rfl) ?_)
  obtain ⟨U1, eU1⟩ : ∃ z : Nat → Int64, z = vp_updL U 0 (tellW C S (nN v) (nN q)) := ⟨_, rfl⟩
  refine g_last X (ws' := wX x y cI cJ cZ C N S Qk Z ++ [(u, .inl (cJ, 1, .inr (.inl U1)))]) 36 rfl (0) rfl (by omega) (Nat.le_of_ble_eq_true rfl) dL_ofWell_8 (by rw [eU1]; first | done | (rfl)) ?_
  refine g_goto X (tgt := 20) dL_ofWell_9 (by decide) ?_
  refine g_iconst X (v := nI 0) dL_ofWell_20 (by decide +kernel) ?_
  refine g_iret X hr hlk hQ dL_ofWell_21 ?_
  show g_eq _ _ _ _
  try rw [eU1]
  exact ⟨rfl, rfl⟩
abbrev rm_L_ofWellX : Room := { frames := 9, cells := 1, slots := 6, locals := 146 }
set_option maxRecDepth 100000 in
set_option maxHeartbeats 4000000 in
theorem m_L_ofWellX (l : Launch) (hl0 : l.stackTraces = false) (D : va_G) (cI cJ cZ : ClassId) (B0 : Nat) (x : Nat → Nat) (y : Nat) (C : Cf) (N : Nat → Nat) (S : St) (Qk : Nat → Int64) (Z : St) (u : Nat) (U : Nat → Int64) (v q : Int32) (hC : Cok C N) (hc1 : ¬ cI2 (N 0) v q (nI 0) (nI 6) = 0) (hB : g_Bw B0 (wX x y cI cJ cZ C N S Qk Z ++ [(u, .inl (cJ, 1, .inr (.inl U)))])) : g_CtW l D cI cJ cZ B0 yL_ofWell cL_ofWell 5 (some .int) [(0, 9, 12, 13), (0, 9, 16, 15)] rm_L_ofWellX 1 6 [.ref (x 0), .int v, .int q, .ref u] (wX x y cI cJ cZ C N S Qk Z ++ [(u, .inl (cJ, 1, .inr (.inl U)))]) (g_eq (some (.int (nI (cI2 (N 0) v q (nI 0) (nI 6))))) (wX x y cI cJ cZ C N S Qk Z ++ [(u, .inl (cJ, 1, .inr (.inl U)))])) := by
  refine g_bodyW RL [(0, .ref (x 0)), (1, .int v), (2, .int q), (3, .ref u)] kH_L rfl (Nat.le_of_ble_eq_true rfl) rfl hB ?_
  intro p e s m args below meth c A X Y hT hr hlk hmn Q hQ
  refine g_aload_n X 3 dL_ofWell_0 rfl rfl ?_
  refine g_iconst X (v := nI 0) dL_ofWell_1 (by decide +kernel) ?_
  refine g_aload_n X 0 dL_ofWell_2 rfl rfl ?_
  refine g_iload_n X 1 dL_ofWell_3 rfl rfl ?_
  refine g_iload_n X 2 dL_ofWell_4 rfl rfl ?_
  have hle : cI2 (N 0) v q (nI 0) (nI 6) ≤ 2 := by unfold cI2; (repeat' split) <;> omega
  rcases (show cI2 (N 0) v q (nI 0) (nI 6) = 1 ∨ cI2 (N 0) v q (nI 0) (nI 6) = 2 by omega) with hk | hk
  · --
    have hE : eA (cI2 (N 0) v q (nI 0) (nI 6)) = xI := by rw [hk]; rfl
    have hm := m_X6_ofWellX l hl0 D cI cJ cZ B0 x y C N S Qk Z v q hC hc1 (fun k q h => hB k q ((List.getElem?_append_left (List.getElem?_eq_some_iff.mp h).1).trans h))
    rw [hE] at hm
    refine g_callVC X Y (As := [.int v, .int q]) (rest := [.int (nI 0), .ref u]) hm kM_L_60 kI_yX6_ofWell kS_yX6_ofWell kZ_RX6 kC_yX6_ofWell hV_X6_ofWell rfl rfl rfl 0 rfl (ci := 6) rfl ⟨Nat.le_of_ble_eq_true rfl, Nat.le_of_ble_eq_true rfl⟩ ⟨Nat.le_of_ble_eq_true rfl, Nat.le_of_ble_eq_true rfl⟩ (Nat.le_of_ble_eq_true rfl) dL_ofWell_5 rfl (em_I 0 36 36 0) (em_C (by decide) (Nat.le_of_ble_eq_true rfl) rfl) (em_nd (by decide)) (em3 0 36 36 0 (by decide) (Nat.le_of_ble_eq_true rfl) rfl rfl rfl) [] ⟨0, 9, 12, 13⟩ [⟨0, 9, 16, 15⟩] hT (by decide) (fun z hz => by simp at hz) (by decide) (by decide) kQ_L_13 (fun q9 => ?_)
    refine g_astore X [(4, .ref q9), (0, .ref (x 0)), (1, .int v), (2, .int q), (3, .ref u)] dL_ofWell_12 (Nat.le_of_ble_eq_true rfl) rfl ?_
    refine g_iconst X (v := nI 1) dL_ofWell_14 (by decide +kernel) ?_
    refine g_iret X hr hlk hQ dL_ofWell_15 ?_
    show g_eq _ _ _ _
    refine ⟨?_, rfl⟩
    rw [hk]
  · --
    have hE : eA (cI2 (N 0) v q (nI 0) (nI 6)) = xA := by rw [hk]; rfl
    have hm := m_X6_ofWellX l hl0 D cI cJ cZ B0 x y C N S Qk Z v q hC hc1 (fun k q h => hB k q ((List.getElem?_append_left (List.getElem?_eq_some_iff.mp h).1).trans h))
    rw [hE] at hm
    refine g_callVC X Y (As := [.int v, .int q]) (rest := [.int (nI 0), .ref u]) hm kM_L_60 kI_yX6_ofWell kS_yX6_ofWell kZ_RX6 kC_yX6_ofWell hV_X6_ofWell rfl rfl rfl 0 rfl (ci := 6) rfl ⟨Nat.le_of_ble_eq_true rfl, Nat.le_of_ble_eq_true rfl⟩ ⟨Nat.le_of_ble_eq_true rfl, Nat.le_of_ble_eq_true rfl⟩ (Nat.le_of_ble_eq_true rfl) dL_ofWell_5 rfl (em_I 0 36 36 0) (em_C (by decide) (Nat.le_of_ble_eq_true rfl) rfl) (em_nd (by decide)) (em3 0 36 36 0 (by decide) (Nat.le_of_ble_eq_true rfl) rfl rfl rfl) [⟨0, 9, 12, 13⟩] ⟨0, 9, 16, 15⟩ [] hT (by decide) (fun z hz => by simp only [List.mem_cons, List.not_mem_nil, or_false] at hz; subst hz; exact ⟨by decide, xI, by decide, by decide, kQ_L_13⟩) (by decide) (by decide) kQ_L_15 (fun q9 => ?_)
    refine g_astore X [(4, .ref q9), (0, .ref (x 0)), (1, .int v), (2, .int q), (3, .ref u)] dL_ofWell_16 (Nat.le_of_ble_eq_true rfl) rfl ?_
    refine g_iconst X (v := nI 2) dL_ofWell_18 (by decide +kernel) ?_
    refine g_iret X hr hlk hQ dL_ofWell_19 ?_
    show g_eq _ _ _ _
    refine ⟨?_, rfl⟩
    rw [hk]
theorem hV_L_ofSpring : yL_ofSpring.cls = RL ∧ yL_ofSpring.cls ≠ "java/lang/invoke/MethodHandle" ∧ yL_ofSpring.cls ≠ "java/lang/invoke/VarHandle" ∧ (parseMethodDescriptor yL_ofSpring.desc).map (fun d => d.parameters.length) = some 4 := by decide +kernel
abbrev rm_L_ofSpring : Room := { frames := 3, cells := 0, slots := 0, locals := 71 }
set_option maxRecDepth 100000 in
set_option maxHeartbeats 4000000 in
theorem m_L_ofSpring (l : Launch) (hl0 : l.stackTraces = false) (D : va_G) (cI cJ cZ : ClassId) (B0 : Nat) (x : Nat → Nat) (y : Nat) (C : Cf) (N : Nat → Nat) (S : St) (Qk : Nat → Int64) (Z : St) (u : Nat) (U : Nat → Int64) (v q : Int32) (hC : Cok C N) (hc0 : cI2 (N 2) v q (nI 0) (nI 4) = 0) (hB : g_Bw B0 (wX x y cI cJ cZ C N S Qk Z ++ [(u, .inl (cJ, 1, .inr (.inl U)))])) : g_CtW l D cI cJ cZ B0 yL_ofSpring cL_ofSpring 5 (some .int) [(0, 9, 12, 13), (0, 9, 16, 15)] rm_L_ofSpring 0 0 [.ref (x 0), .int v, .int q, .ref u] (wX x y cI cJ cZ C N S Qk Z ++ [(u, .inl (cJ, 1, .inr (.inl U)))]) (g_eq (some (.int (nI 0))) (wX x y cI cJ cZ C N S Qk Z ++ [(u, .inl (cJ, 1, .inr (.inl (vp_updL U 0 ((tellS C S (nN v) (nN q)))))))])) := by
  refine g_bodyW RL [(0, .ref (x 0)), (1, .int v), (2, .int q), (3, .ref u)] kH_L rfl (Nat.le_of_ble_eq_true rfl) rfl hB ?_
  intro p e s m args below meth c A X Y hT hr hlk hmn Q hQ
  refine g_aload_n X 3 dL_ofSpring_0 rfl rfl ?_
  refine g_iconst X (v := nI 0) dL_ofSpring_1 (by decide +kernel) ?_
  refine g_aload_n X 0 dL_ofSpring_2 rfl rfl ?_
  refine g_iload_n X 1 dL_ofSpring_3 rfl rfl ?_
  refine g_iload_n X 2 dL_ofSpring_4 rfl rfl ?_
  refine g_callV X (As := [.int v, .int q]) (rest := [.int (nI 0), .ref u]) (m_X6_ofSpring l D cI cJ cZ x y C N S Qk Z v q hC hc0) kM_L_63 kI_yX6_ofSpring kS_yX6_ofSpring kZ_RX6 kC_yX6_ofSpring hV_X6_ofSpring rfl rfl rfl 0 rfl (ci := 6) rfl ⟨Nat.le_of_ble_eq_true rfl, Nat.le_of_ble_eq_true rfl⟩ ⟨Nat.le_of_ble_eq_true rfl, Nat.le_of_ble_eq_true rfl⟩ (Nat.le_of_ble_eq_true rfl) dL_ofSpring_5 rfl (em_I 0 36 36 0) (em_C (by decide) (Nat.le_of_ble_eq_true rfl) rfl) (em_nd (by decide)) (g_kk1 (w2 := wX x y cI cJ cZ C N S Qk Z ++ [(u, .inl (cJ, 1, .inr (.inl U)))]) (em3 0 36 36 0 (by decide) (Nat.le_of_ble_eq_true rfl) rfl rfl rfl) ?_)
  obtain ⟨U1, eU1⟩ : ∃ z : Nat → Int64, z = vp_updL U 0 (tellS C S (nN v) (nN q)) := ⟨_, rfl⟩
  refine g_last X (ws' := wX x y cI cJ cZ C N S Qk Z ++ [(u, .inl (cJ, 1, .inr (.inl U1)))]) 36 rfl (0) rfl (by omega) (Nat.le_of_ble_eq_true rfl) dL_ofSpring_8 (by rw [eU1]; first | done | (rfl)) ?_
  refine g_goto X (tgt := 20) dL_ofSpring_9 (by decide) ?_
  refine g_iconst X (v := nI 0) dL_ofSpring_20 (by decide +kernel) ?_
  refine g_iret X hr hlk hQ dL_ofSpring_21 ?_
  show g_eq _ _ _ _
  try rw [eU1]
  exact ⟨rfl, rfl⟩
abbrev rm_L_ofSpringX : Room := { frames := 9, cells := 1, slots := 6, locals := 146 }
set_option maxRecDepth 100000 in
set_option maxHeartbeats 4000000 in
theorem m_L_ofSpringX (l : Launch) (hl0 : l.stackTraces = false) (D : va_G) (cI cJ cZ : ClassId) (B0 : Nat) (x : Nat → Nat) (y : Nat) (C : Cf) (N : Nat → Nat) (S : St) (Qk : Nat → Int64) (Z : St) (u : Nat) (U : Nat → Int64) (v q : Int32) (hC : Cok C N) (hc1 : ¬ cI2 (N 2) v q (nI 0) (nI 4) = 0) (hB : g_Bw B0 (wX x y cI cJ cZ C N S Qk Z ++ [(u, .inl (cJ, 1, .inr (.inl U)))])) : g_CtW l D cI cJ cZ B0 yL_ofSpring cL_ofSpring 5 (some .int) [(0, 9, 12, 13), (0, 9, 16, 15)] rm_L_ofSpringX 1 6 [.ref (x 0), .int v, .int q, .ref u] (wX x y cI cJ cZ C N S Qk Z ++ [(u, .inl (cJ, 1, .inr (.inl U)))]) (g_eq (some (.int (nI (cI2 (N 2) v q (nI 0) (nI 4))))) (wX x y cI cJ cZ C N S Qk Z ++ [(u, .inl (cJ, 1, .inr (.inl U)))])) := by
  refine g_bodyW RL [(0, .ref (x 0)), (1, .int v), (2, .int q), (3, .ref u)] kH_L rfl (Nat.le_of_ble_eq_true rfl) rfl hB ?_
  intro p e s m args below meth c A X Y hT hr hlk hmn Q hQ
  refine g_aload_n X 3 dL_ofSpring_0 rfl rfl ?_
  refine g_iconst X (v := nI 0) dL_ofSpring_1 (by decide +kernel) ?_
  refine g_aload_n X 0 dL_ofSpring_2 rfl rfl ?_
  refine g_iload_n X 1 dL_ofSpring_3 rfl rfl ?_
  refine g_iload_n X 2 dL_ofSpring_4 rfl rfl ?_
  have hle : cI2 (N 2) v q (nI 0) (nI 4) ≤ 2 := by unfold cI2; (repeat' split) <;> omega
  rcases (show cI2 (N 2) v q (nI 0) (nI 4) = 1 ∨ cI2 (N 2) v q (nI 0) (nI 4) = 2 by omega) with hk | hk
  · --
    have hE : eA (cI2 (N 2) v q (nI 0) (nI 4)) = xI := by rw [hk]; rfl
    have hm := m_X6_ofSpringX l hl0 D cI cJ cZ B0 x y C N S Qk Z v q hC hc1 (fun k q h => hB k q ((List.getElem?_append_left (List.getElem?_eq_some_iff.mp h).1).trans h))
    rw [hE] at hm
    refine g_callVC X Y (As := [.int v, .int q]) (rest := [.int (nI 0), .ref u]) hm kM_L_63 kI_yX6_ofSpring kS_yX6_ofSpring kZ_RX6 kC_yX6_ofSpring hV_X6_ofSpring rfl rfl rfl 0 rfl (ci := 6) rfl ⟨Nat.le_of_ble_eq_true rfl, Nat.le_of_ble_eq_true rfl⟩ ⟨Nat.le_of_ble_eq_true rfl, Nat.le_of_ble_eq_true rfl⟩ (Nat.le_of_ble_eq_true rfl) dL_ofSpring_5 rfl (em_I 0 36 36 0) (em_C (by decide) (Nat.le_of_ble_eq_true rfl) rfl) (em_nd (by decide)) (em3 0 36 36 0 (by decide) (Nat.le_of_ble_eq_true rfl) rfl rfl rfl) [] ⟨0, 9, 12, 13⟩ [⟨0, 9, 16, 15⟩] hT (by decide) (fun z hz => by simp at hz) (by decide) (by decide) kQ_L_13 (fun q9 => ?_)
    refine g_astore X [(4, .ref q9), (0, .ref (x 0)), (1, .int v), (2, .int q), (3, .ref u)] dL_ofSpring_12 (Nat.le_of_ble_eq_true rfl) rfl ?_
    refine g_iconst X (v := nI 1) dL_ofSpring_14 (by decide +kernel) ?_
    refine g_iret X hr hlk hQ dL_ofSpring_15 ?_
    show g_eq _ _ _ _
    refine ⟨?_, rfl⟩
    rw [hk]
  · --
    have hE : eA (cI2 (N 2) v q (nI 0) (nI 4)) = xA := by rw [hk]; rfl
    have hm := m_X6_ofSpringX l hl0 D cI cJ cZ B0 x y C N S Qk Z v q hC hc1 (fun k q h => hB k q ((List.getElem?_append_left (List.getElem?_eq_some_iff.mp h).1).trans h))
    rw [hE] at hm
    refine g_callVC X Y (As := [.int v, .int q]) (rest := [.int (nI 0), .ref u]) hm kM_L_63 kI_yX6_ofSpring kS_yX6_ofSpring kZ_RX6 kC_yX6_ofSpring hV_X6_ofSpring rfl rfl rfl 0 rfl (ci := 6) rfl ⟨Nat.le_of_ble_eq_true rfl, Nat.le_of_ble_eq_true rfl⟩ ⟨Nat.le_of_ble_eq_true rfl, Nat.le_of_ble_eq_true rfl⟩ (Nat.le_of_ble_eq_true rfl) dL_ofSpring_5 rfl (em_I 0 36 36 0) (em_C (by decide) (Nat.le_of_ble_eq_true rfl) rfl) (em_nd (by decide)) (em3 0 36 36 0 (by decide) (Nat.le_of_ble_eq_true rfl) rfl rfl rfl) [⟨0, 9, 12, 13⟩] ⟨0, 9, 16, 15⟩ [] hT (by decide) (fun z hz => by simp only [List.mem_cons, List.not_mem_nil, or_false] at hz; subst hz; exact ⟨by decide, xI, by decide, by decide, kQ_L_13⟩) (by decide) (by decide) kQ_L_15 (fun q9 => ?_)
    refine g_astore X [(4, .ref q9), (0, .ref (x 0)), (1, .int v), (2, .int q), (3, .ref u)] dL_ofSpring_16 (Nat.le_of_ble_eq_true rfl) rfl ?_
    refine g_iconst X (v := nI 2) dL_ofSpring_18 (by decide +kernel) ?_
    refine g_iret X hr hlk hQ dL_ofSpring_19 ?_
    show g_eq _ _ _ _
    refine ⟨?_, rfl⟩
    rw [hk]
theorem hV_L_quake : yL_quake.cls = RL ∧ yL_quake.cls ≠ "java/lang/invoke/MethodHandle" ∧ yL_quake.cls ≠ "java/lang/invoke/VarHandle" ∧ (parseMethodDescriptor yL_quake.desc).map (fun d => d.parameters.length) = some 4 := by decide +kernel
abbrev rm_L_quake : Room := { frames := 3, cells := 0, slots := 0, locals := 65 }
set_option maxRecDepth 100000 in
set_option maxHeartbeats 4000000 in
theorem m_L_quake (l : Launch) (hl0 : l.stackTraces = false) (D : va_G) (cI cJ cZ : ClassId) (B0 : Nat) (x : Nat → Nat) (y : Nat) (C : Cf) (N : Nat → Nat) (S : St) (Qk : Nat → Int64) (Z : St) (u : Nat) (U : Nat → Int64) (v q : Int32) (hq : S 14 0 = lN (qN S) ∧ qN S ≤ 900000) (hc0 : cI2 (kpM S) v q (nI 0) (nI 2) = 0) (hB : g_Bw B0 (wX x y cI cJ cZ C N S Qk Z ++ [(u, .inl (cJ, 1, .inr (.inl U)))])) : g_CtW l D cI cJ cZ B0 yL_quake cL_quake 5 (some .int) [(0, 10, 13, 13), (0, 10, 17, 15)] rm_L_quake 0 0 [.ref (x 0), .int v, .int q, .ref u] (wX x y cI cJ cZ C N S Qk Z ++ [(u, .inl (cJ, 1, .inr (.inl U)))]) (g_eq (some (.int (nI 0))) (wX x y cI cJ cZ C N S Qk Z ++ [(u, .inl (cJ, 1, .inr (.inl (vp_updL U 0 ((tellQ Qk (nN v) (nN q)).toInt64)))))])) := by
  refine g_bodyW RL [(0, .ref (x 0)), (1, .int v), (2, .int q), (3, .ref u)] kH_L rfl (Nat.le_of_ble_eq_true rfl) rfl hB ?_
  intro p e s m args below meth c A X Y hT hr hlk hmn Q hQ
  refine g_aload_n X 3 dL_quake_0 rfl rfl ?_
  refine g_iconst X (v := nI 0) dL_quake_1 (by decide +kernel) ?_
  refine g_aload_n X 0 dL_quake_2 rfl rfl ?_
  refine g_iload_n X 1 dL_quake_3 rfl rfl ?_
  refine g_iload_n X 2 dL_quake_4 rfl rfl ?_
  refine g_callV X (As := [.int v, .int q]) (rest := [.int (nI 0), .ref u]) (m_X6_quake l D cI cJ cZ x y C N S Qk Z v q hq hc0) kM_L_66 kI_yX6_quake kS_yX6_quake kZ_RX6 kC_yX6_quake hV_X6_quake rfl rfl rfl 0 rfl (ci := 6) rfl ⟨Nat.le_of_ble_eq_true rfl, Nat.le_of_ble_eq_true rfl⟩ ⟨Nat.le_of_ble_eq_true rfl, Nat.le_of_ble_eq_true rfl⟩ (Nat.le_of_ble_eq_true rfl) dL_quake_5 rfl (em_I 0 36 36 0) (em_C (by decide) (Nat.le_of_ble_eq_true rfl) rfl) (em_nd (by decide)) (g_kk1 (w2 := wX x y cI cJ cZ C N S Qk Z ++ [(u, .inl (cJ, 1, .inr (.inl U)))]) (em3 0 36 36 0 (by decide) (Nat.le_of_ble_eq_true rfl) rfl rfl rfl) ?_)
  refine g_i2l X (v := (tellQ Qk (nN v) (nN q)).toInt64) dL_quake_8 rfl ?_
  obtain ⟨U1, eU1⟩ : ∃ z : Nat → Int64, z = vp_updL U 0 ((tellQ Qk (nN v) (nN q)).toInt64) := ⟨_, rfl⟩
  refine g_last X (ws' := wX x y cI cJ cZ C N S Qk Z ++ [(u, .inl (cJ, 1, .inr (.inl U1)))]) 36 rfl (0) rfl (by omega) (Nat.le_of_ble_eq_true rfl) dL_quake_9 (by rw [eU1]; first | done | (rfl)) ?_
  refine g_goto X (tgt := 21) dL_quake_10 (by decide) ?_
  refine g_iconst X (v := nI 0) dL_quake_21 (by decide +kernel) ?_
  refine g_iret X hr hlk hQ dL_quake_22 ?_
  show g_eq _ _ _ _
  try rw [eU1]
  exact ⟨rfl, rfl⟩
abbrev rm_L_quakeX : Room := { frames := 9, cells := 1, slots := 6, locals := 146 }
set_option maxRecDepth 100000 in
set_option maxHeartbeats 4000000 in
theorem m_L_quakeX (l : Launch) (hl0 : l.stackTraces = false) (D : va_G) (cI cJ cZ : ClassId) (B0 : Nat) (x : Nat → Nat) (y : Nat) (C : Cf) (N : Nat → Nat) (S : St) (Qk : Nat → Int64) (Z : St) (u : Nat) (U : Nat → Int64) (v q : Int32) (hq : S 14 0 = lN (qN S) ∧ qN S ≤ 900000) (hc1 : ¬ cI2 (kpM S) v q (nI 0) (nI 2) = 0) (hB : g_Bw B0 (wX x y cI cJ cZ C N S Qk Z ++ [(u, .inl (cJ, 1, .inr (.inl U)))])) : g_CtW l D cI cJ cZ B0 yL_quake cL_quake 5 (some .int) [(0, 10, 13, 13), (0, 10, 17, 15)] rm_L_quakeX 1 6 [.ref (x 0), .int v, .int q, .ref u] (wX x y cI cJ cZ C N S Qk Z ++ [(u, .inl (cJ, 1, .inr (.inl U)))]) (g_eq (some (.int (nI (cI2 (kpM S) v q (nI 0) (nI 2))))) (wX x y cI cJ cZ C N S Qk Z ++ [(u, .inl (cJ, 1, .inr (.inl U)))])) := by
  refine g_bodyW RL [(0, .ref (x 0)), (1, .int v), (2, .int q), (3, .ref u)] kH_L rfl (Nat.le_of_ble_eq_true rfl) rfl hB ?_
  intro p e s m args below meth c A X Y hT hr hlk hmn Q hQ
  refine g_aload_n X 3 dL_quake_0 rfl rfl ?_
  refine g_iconst X (v := nI 0) dL_quake_1 (by decide +kernel) ?_
  refine g_aload_n X 0 dL_quake_2 rfl rfl ?_
  refine g_iload_n X 1 dL_quake_3 rfl rfl ?_
  refine g_iload_n X 2 dL_quake_4 rfl rfl ?_
  have hle : cI2 (kpM S) v q (nI 0) (nI 2) ≤ 2 := by unfold cI2; (repeat' split) <;> omega
  rcases (show cI2 (kpM S) v q (nI 0) (nI 2) = 1 ∨ cI2 (kpM S) v q (nI 0) (nI 2) = 2 by omega) with hk | hk
  · --
    have hE : eA (cI2 (kpM S) v q (nI 0) (nI 2)) = xI := by rw [hk]; rfl
    have hm := m_X6_quakeX l hl0 D cI cJ cZ B0 x y C N S Qk Z v q hq hc1 (fun k q h => hB k q ((List.getElem?_append_left (List.getElem?_eq_some_iff.mp h).1).trans h))
    rw [hE] at hm
    refine g_callVC X Y (As := [.int v, .int q]) (rest := [.int (nI 0), .ref u]) hm kM_L_66 kI_yX6_quake kS_yX6_quake kZ_RX6 kC_yX6_quake hV_X6_quake rfl rfl rfl 0 rfl (ci := 6) rfl ⟨Nat.le_of_ble_eq_true rfl, Nat.le_of_ble_eq_true rfl⟩ ⟨Nat.le_of_ble_eq_true rfl, Nat.le_of_ble_eq_true rfl⟩ (Nat.le_of_ble_eq_true rfl) dL_quake_5 rfl (em_I 0 36 36 0) (em_C (by decide) (Nat.le_of_ble_eq_true rfl) rfl) (em_nd (by decide)) (em3 0 36 36 0 (by decide) (Nat.le_of_ble_eq_true rfl) rfl rfl rfl) [] ⟨0, 10, 13, 13⟩ [⟨0, 10, 17, 15⟩] hT (by decide) (fun z hz => by simp at hz) (by decide) (by decide) kQ_L_13 (fun q9 => ?_)
    refine g_astore X [(4, .ref q9), (0, .ref (x 0)), (1, .int v), (2, .int q), (3, .ref u)] dL_quake_13 (Nat.le_of_ble_eq_true rfl) rfl ?_
    refine g_iconst X (v := nI 1) dL_quake_15 (by decide +kernel) ?_
    refine g_iret X hr hlk hQ dL_quake_16 ?_
    show g_eq _ _ _ _
    refine ⟨?_, rfl⟩
    rw [hk]
  · --
    have hE : eA (cI2 (kpM S) v q (nI 0) (nI 2)) = xA := by rw [hk]; rfl
    have hm := m_X6_quakeX l hl0 D cI cJ cZ B0 x y C N S Qk Z v q hq hc1 (fun k q h => hB k q ((List.getElem?_append_left (List.getElem?_eq_some_iff.mp h).1).trans h))
    rw [hE] at hm
    refine g_callVC X Y (As := [.int v, .int q]) (rest := [.int (nI 0), .ref u]) hm kM_L_66 kI_yX6_quake kS_yX6_quake kZ_RX6 kC_yX6_quake hV_X6_quake rfl rfl rfl 0 rfl (ci := 6) rfl ⟨Nat.le_of_ble_eq_true rfl, Nat.le_of_ble_eq_true rfl⟩ ⟨Nat.le_of_ble_eq_true rfl, Nat.le_of_ble_eq_true rfl⟩ (Nat.le_of_ble_eq_true rfl) dL_quake_5 rfl (em_I 0 36 36 0) (em_C (by decide) (Nat.le_of_ble_eq_true rfl) rfl) (em_nd (by decide)) (em3 0 36 36 0 (by decide) (Nat.le_of_ble_eq_true rfl) rfl rfl rfl) [⟨0, 10, 13, 13⟩] ⟨0, 10, 17, 15⟩ [] hT (by decide) (fun z hz => by simp only [List.mem_cons, List.not_mem_nil, or_false] at hz; subst hz; exact ⟨by decide, xI, by decide, by decide, kQ_L_13⟩) (by decide) (by decide) kQ_L_15 (fun q9 => ?_)
    refine g_astore X [(4, .ref q9), (0, .ref (x 0)), (1, .int v), (2, .int q), (3, .ref u)] dL_quake_17 (Nat.le_of_ble_eq_true rfl) rfl ?_
    refine g_iconst X (v := nI 2) dL_quake_19 (by decide +kernel) ?_
    refine g_iret X hr hlk hQ dL_quake_20 ?_
    show g_eq _ _ _ _
    refine ⟨?_, rfl⟩
    rw [hk]
