theorem hV_L_tracer : yL_tracer.cls = RL ∧ yL_tracer.cls ≠ "java/lang/invoke/MethodHandle" ∧ yL_tracer.cls ≠ "java/lang/invoke/VarHandle" ∧ (parseMethodDescriptor yL_tracer.desc).map (fun d => d.parameters.length) = some 4 := by decide +kernel
abbrev rm_L_tracer : Room := { frames := 3, cells := 0, slots := 0, locals := 64 }
set_option maxRecDepth 100000 in
set_option maxHeartbeats 4000000 in
theorem m_L_tracer (l : Launch) (hl0 : l.stackTraces = false) (D : va_G) (cI cJ cZ : ClassId) (B0 : Nat) (x : Nat → Nat) (y : Nat) (C : Cf) (N : Nat → Nat) (S : St) (Qk : Nat → Int64) (Z : St) (u : Nat) (U : Nat → Int64) (v q : Int32) (hW : Wok S) (hc0 : cT2 S v q = 0) (hB : g_Bw B0 (wX x y cI cJ cZ C N S Qk Z ++ [(u, .inl (cJ, 1, .inr (.inl U)))])) : g_CtW l D cI cJ cZ B0 yL_tracer cL_tracer 5 (some .int) [(0, 9, 12, 13), (0, 9, 16, 15), (0, 9, 20, 17)] rm_L_tracer 0 0 [.ref (x 0), .int v, .int q, .ref u] (wX x y cI cJ cZ C N S Qk Z ++ [(u, .inl (cJ, 1, .inr (.inl U)))]) (g_eq (some (.int (nI 0))) (wX x y cI cJ cZ C N (u2 S 2 (nN v) (S 2 (nN v) + q.toInt64)) Qk Z ++ [(u, .inl (cJ, 1, .inr (.inl (vp_updL U 0 ((S 2 (nN v) + q.toInt64))))))])) := by
  refine g_bodyW RL [(0, .ref (x 0)), (1, .int v), (2, .int q), (3, .ref u)] kH_L rfl (Nat.le_of_ble_eq_true rfl) rfl hB ?_
  intro p e s m args below meth c A X Y hT hr hlk hmn Q hQ
  refine g_aload_n X 3 dL_tracer_0 rfl rfl ?_
  refine g_iconst X (v := nI 0) dL_tracer_1 (by decide +kernel) ?_
  refine g_aload_n X 0 dL_tracer_2 rfl rfl ?_
  refine g_iload_n X 1 dL_tracer_3 rfl rfl ?_
  refine g_iload_n X 2 dL_tracer_4 rfl rfl ?_
  obtain ⟨S1, eS1⟩ : ∃ z : St, z = (u2 S 2 (nN v) (S 2 (nN v) + q.toInt64)) := ⟨_, rfl⟩
  refine g_callV X (As := [.int v, .int q]) (rest := [.int (nI 0), .ref u]) (m_X6_tracer l D cI cJ cZ x y C N S Qk Z v q hW hc0) kM_L_46 kI_yX6_tracer kS_yX6_tracer kZ_RX6 kC_yX6_tracer hV_X6_tracer rfl rfl rfl 0 rfl (ci := 6) rfl ⟨Nat.le_of_ble_eq_true rfl, Nat.le_of_ble_eq_true rfl⟩ ⟨Nat.le_of_ble_eq_true rfl, Nat.le_of_ble_eq_true rfl⟩ (Nat.le_of_ble_eq_true rfl) dL_tracer_5 rfl (em_I 0 36 36 0) (em_C (by decide) (Nat.le_of_ble_eq_true rfl) rfl) (em_nd (by decide)) (g_kk1 (w2 := wX x y cI cJ cZ C N S1 Qk Z ++ [(u, .inl (cJ, 1, .inr (.inl U)))]) (by rw [eS1]; exact (em3 0 36 36 0 (by decide) (Nat.le_of_ble_eq_true rfl) rfl rfl rfl)) ?_)
  obtain ⟨U2, eU2⟩ : ∃ z : Nat → Int64, z = vp_updL U 0 (S 2 (nN v) + q.toInt64) := ⟨_, rfl⟩
  refine g_last X (ws' := wX x y cI cJ cZ C N S1 Qk Z ++ [(u, .inl (cJ, 1, .inr (.inl U2)))]) 36 rfl (0) rfl (by omega) (Nat.le_of_ble_eq_true rfl) dL_tracer_8 (by rw [eU2]; first | done | (rfl)) ?_
  refine g_goto X (tgt := 24) dL_tracer_9 (by decide) ?_
  refine g_iconst X (v := nI 0) dL_tracer_24 (by decide +kernel) ?_
  refine g_iret X hr hlk hQ dL_tracer_25 ?_
  show g_eq _ _ _ _
  try rw [eU2]
  try rw [eS1]
  exact ⟨rfl, rfl⟩
abbrev rm_L_tracerX : Room := { frames := 9, cells := 1, slots := 6, locals := 146 }
set_option maxRecDepth 100000 in
set_option maxHeartbeats 4000000 in
theorem m_L_tracerX (l : Launch) (hl0 : l.stackTraces = false) (D : va_G) (cI cJ cZ : ClassId) (B0 : Nat) (x : Nat → Nat) (y : Nat) (C : Cf) (N : Nat → Nat) (S : St) (Qk : Nat → Int64) (Z : St) (u : Nat) (U : Nat → Int64) (v q : Int32) (hW : Wok S) (hc1 : ¬ cT2 S v q = 0) (hB : g_Bw B0 (wX x y cI cJ cZ C N S Qk Z ++ [(u, .inl (cJ, 1, .inr (.inl U)))])) : g_CtW l D cI cJ cZ B0 yL_tracer cL_tracer 5 (some .int) [(0, 9, 12, 13), (0, 9, 16, 15), (0, 9, 20, 17)] rm_L_tracerX 1 6 [.ref (x 0), .int v, .int q, .ref u] (wX x y cI cJ cZ C N S Qk Z ++ [(u, .inl (cJ, 1, .inr (.inl U)))]) (g_eq (some (.int (nI (cT2 S v q)))) (wX x y cI cJ cZ C N S Qk Z ++ [(u, .inl (cJ, 1, .inr (.inl U)))])) := by
  refine g_bodyW RL [(0, .ref (x 0)), (1, .int v), (2, .int q), (3, .ref u)] kH_L rfl (Nat.le_of_ble_eq_true rfl) rfl hB ?_
  intro p e s m args below meth c A X Y hT hr hlk hmn Q hQ
  refine g_aload_n X 3 dL_tracer_0 rfl rfl ?_
  refine g_iconst X (v := nI 0) dL_tracer_1 (by decide +kernel) ?_
  refine g_aload_n X 0 dL_tracer_2 rfl rfl ?_
  refine g_iload_n X 1 dL_tracer_3 rfl rfl ?_
  refine g_iload_n X 2 dL_tracer_4 rfl rfl ?_
  have hle : cT2 S v q ≤ 3 := by unfold cT2; (repeat' split) <;> omega
  rcases (show cT2 S v q = 1 ∨ cT2 S v q = 2 ∨ cT2 S v q = 3 by omega) with hk | hk | hk
  · --
    have hE : eA (cT2 S v q) = xI := by rw [hk]; rfl
    have hm := m_X6_tracerX l hl0 D cI cJ cZ B0 x y C N S Qk Z v q hW hc1 (fun k q h => hB k q ((List.getElem?_append_left (List.getElem?_eq_some_iff.mp h).1).trans h))
    rw [hE] at hm
    refine g_callVC X Y (As := [.int v, .int q]) (rest := [.int (nI 0), .ref u]) hm kM_L_46 kI_yX6_tracer kS_yX6_tracer kZ_RX6 kC_yX6_tracer hV_X6_tracer rfl rfl rfl 0 rfl (ci := 6) rfl ⟨Nat.le_of_ble_eq_true rfl, Nat.le_of_ble_eq_true rfl⟩ ⟨Nat.le_of_ble_eq_true rfl, Nat.le_of_ble_eq_true rfl⟩ (Nat.le_of_ble_eq_true rfl) dL_tracer_5 rfl (em_I 0 36 36 0) (em_C (by decide) (Nat.le_of_ble_eq_true rfl) rfl) (em_nd (by decide)) (em3 0 36 36 0 (by decide) (Nat.le_of_ble_eq_true rfl) rfl rfl rfl) [] ⟨0, 9, 12, 13⟩ [⟨0, 9, 16, 15⟩, ⟨0, 9, 20, 17⟩] hT (by decide) (fun z hz => by simp at hz) (by decide) (by decide) kQ_L_13 (fun q9 => ?_)
    refine g_astore X [(4, .ref q9), (0, .ref (x 0)), (1, .int v), (2, .int q), (3, .ref u)] dL_tracer_12 (Nat.le_of_ble_eq_true rfl) rfl ?_
    refine g_iconst X (v := nI 1) dL_tracer_14 (by decide +kernel) ?_
    refine g_iret X hr hlk hQ dL_tracer_15 ?_
    show g_eq _ _ _ _
    refine ⟨?_, rfl⟩
    rw [hk]
  · --
    have hE : eA (cT2 S v q) = xA := by rw [hk]; rfl
    have hm := m_X6_tracerX l hl0 D cI cJ cZ B0 x y C N S Qk Z v q hW hc1 (fun k q h => hB k q ((List.getElem?_append_left (List.getElem?_eq_some_iff.mp h).1).trans h))
    rw [hE] at hm
    refine g_callVC X Y (As := [.int v, .int q]) (rest := [.int (nI 0), .ref u]) hm kM_L_46 kI_yX6_tracer kS_yX6_tracer kZ_RX6 kC_yX6_tracer hV_X6_tracer rfl rfl rfl 0 rfl (ci := 6) rfl ⟨Nat.le_of_ble_eq_true rfl, Nat.le_of_ble_eq_true rfl⟩ ⟨Nat.le_of_ble_eq_true rfl, Nat.le_of_ble_eq_true rfl⟩ (Nat.le_of_ble_eq_true rfl) dL_tracer_5 rfl (em_I 0 36 36 0) (em_C (by decide) (Nat.le_of_ble_eq_true rfl) rfl) (em_nd (by decide)) (em3 0 36 36 0 (by decide) (Nat.le_of_ble_eq_true rfl) rfl rfl rfl) [⟨0, 9, 12, 13⟩] ⟨0, 9, 16, 15⟩ [⟨0, 9, 20, 17⟩] hT (by decide) (fun z hz => by simp only [List.mem_cons, List.not_mem_nil, or_false] at hz; subst hz; exact ⟨by decide, xI, by decide, by decide, kQ_L_13⟩) (by decide) (by decide) kQ_L_15 (fun q9 => ?_)
    refine g_astore X [(4, .ref q9), (0, .ref (x 0)), (1, .int v), (2, .int q), (3, .ref u)] dL_tracer_16 (Nat.le_of_ble_eq_true rfl) rfl ?_
    refine g_iconst X (v := nI 2) dL_tracer_18 (by decide +kernel) ?_
    refine g_iret X hr hlk hQ dL_tracer_19 ?_
    show g_eq _ _ _ _
    refine ⟨?_, rfl⟩
    rw [hk]
  · --
    have hE : eA (cT2 S v q) = xS := by rw [hk]; rfl
    have hm := m_X6_tracerX l hl0 D cI cJ cZ B0 x y C N S Qk Z v q hW hc1 (fun k q h => hB k q ((List.getElem?_append_left (List.getElem?_eq_some_iff.mp h).1).trans h))
    rw [hE] at hm
    refine g_callVC X Y (As := [.int v, .int q]) (rest := [.int (nI 0), .ref u]) hm kM_L_46 kI_yX6_tracer kS_yX6_tracer kZ_RX6 kC_yX6_tracer hV_X6_tracer rfl rfl rfl 0 rfl (ci := 6) rfl ⟨Nat.le_of_ble_eq_true rfl, Nat.le_of_ble_eq_true rfl⟩ ⟨Nat.le_of_ble_eq_true rfl, Nat.le_of_ble_eq_true rfl⟩ (Nat.le_of_ble_eq_true rfl) dL_tracer_5 rfl (em_I 0 36 36 0) (em_C (by decide) (Nat.le_of_ble_eq_true rfl) rfl) (em_nd (by decide)) (em3 0 36 36 0 (by decide) (Nat.le_of_ble_eq_true rfl) rfl rfl rfl) [⟨0, 9, 12, 13⟩, ⟨0, 9, 16, 15⟩] ⟨0, 9, 20, 17⟩ [] hT (by decide) (fun z hz => by simp only [List.mem_cons, List.not_mem_nil, or_false] at hz; rcases hz with rfl | rfl; exact ⟨by decide, xI, by decide, by decide, kQ_L_13⟩; exact ⟨by decide, xA, by decide, by decide, kQ_L_15⟩) (by decide) (by decide) kQ_L_17 (fun q9 => ?_)
    refine g_astore X [(4, .ref q9), (0, .ref (x 0)), (1, .int v), (2, .int q), (3, .ref u)] dL_tracer_20 (Nat.le_of_ble_eq_true rfl) rfl ?_
    refine g_iconst X (v := nI 3) dL_tracer_22 (by decide +kernel) ?_
    refine g_iret X hr hlk hQ dL_tracer_23 ?_
    show g_eq _ _ _ _
    refine ⟨?_, rfl⟩
    rw [hk]
theorem hV_L_pass : yL_pass.cls = RL ∧ yL_pass.cls ≠ "java/lang/invoke/MethodHandle" ∧ yL_pass.cls ≠ "java/lang/invoke/VarHandle" ∧ (parseMethodDescriptor yL_pass.desc).map (fun d => d.parameters.length) = some 3 := by decide +kernel
abbrev rm_L_pass : Room := { frames := 7, cells := 0, slots := 0, locals := 160 }
set_option maxRecDepth 100000 in
set_option maxHeartbeats 4000000 in
theorem m_L_pass (l : Launch) (hl0 : l.stackTraces = false) (D : va_G) (cI cJ cZ : ClassId) (B0 : Nat) (x : Nat → Nat) (y : Nat) (C : Cf) (N : Nat → Nat) (S : St) (Qk : Nat → Int64) (Z : St) (u : Nat) (U : Nat → Int64) (v : Int32) (hC : Cok C N) (hR : Rok C) (hX : Xok C) (hI : ∀ i, i ≤ 24 → MonOk C N (mnS C N S i)) (hM : 0 ≤ (S 13 0).toInt ∧ (S 13 0).toInt ≤ 1000) (hc0 : cP2 S v = 0) (hB : g_Bw B0 (wX x y cI cJ cZ C N S Qk Z ++ [(u, .inl (cJ, 1, .inr (.inl U)))])) : g_CtW l D cI cJ cZ B0 yL_pass cL_pass 4 (some .int) [(0, 9, 12, 15), (0, 9, 15, 17)] rm_L_pass 0 0 [.ref (x 0), .int v, .ref u] (wX x y cI cJ cZ C N S Qk Z ++ [(u, .inl (cJ, 1, .inr (.inl U)))]) (g_eq (some (.int (nI 0))) (wX x y cI cJ cZ C N (mnS C N S (nN v)) (mnQ C N S Qk (nN v)) (mnZ C N S Z (nN v)) ++ [(u, .inl (cJ, 1, .inr (.inl (vp_updL U 0 (((mnS C N S (nN v) 13 0).toInt32).toInt64)))))])) := by
  refine g_bodyW RL [(0, .ref (x 0)), (1, .int v), (2, .ref u)] kH_L rfl (Nat.le_of_ble_eq_true rfl) rfl hB ?_
  intro p e s m args below meth c A X Y hT hr hlk hmn Q hQ
  refine g_aload_n X 2 dL_pass_0 rfl rfl ?_
  refine g_iconst X (v := nI 0) dL_pass_1 (by decide +kernel) ?_
  refine g_aload_n X 0 dL_pass_2 rfl rfl ?_
  refine g_iload_n X 1 dL_pass_3 rfl rfl ?_
  obtain ⟨S1, eS1⟩ : ∃ z : St, z = (mnS C N S (nN v)) := ⟨_, rfl⟩
  obtain ⟨Qk2, eQk2⟩ : ∃ z : Nat → Int64, z = (mnQ C N S Qk (nN v)) := ⟨_, rfl⟩
  obtain ⟨X3, eX3⟩ : ∃ z : St, z = (mnZ C N S Z (nN v)) := ⟨_, rfl⟩
  refine g_callV X (As := [.int v]) (rest := [.int (nI 0), .ref u]) (m_X6_pass l D cI cJ cZ x y C N S Qk Z v hC hR hX hI hM hc0) kM_L_50 kI_yX6_pass kS_yX6_pass kZ_RX6 kC_yX6_pass hV_X6_pass rfl rfl rfl 0 rfl (ci := 6) rfl ⟨Nat.le_of_ble_eq_true rfl, Nat.le_of_ble_eq_true rfl⟩ ⟨Nat.le_of_ble_eq_true rfl, Nat.le_of_ble_eq_true rfl⟩ (Nat.le_of_ble_eq_true rfl) dL_pass_4 rfl (em_I 0 36 36 0) (em_C (by decide) (Nat.le_of_ble_eq_true rfl) rfl) (em_nd (by decide)) (g_kk1 (w2 := wX x y cI cJ cZ C N S1 Qk2 X3 ++ [(u, .inl (cJ, 1, .inr (.inl U)))]) (by rw [eX3]; rw [eQk2]; rw [eS1]; exact (em3 0 36 36 0 (by decide) (Nat.le_of_ble_eq_true rfl) rfl rfl rfl)) ?_)
  refine g_i2l X (v := ((mnS C N S (nN v) 13 0).toInt32).toInt64) dL_pass_7 rfl ?_
  obtain ⟨U4, eU4⟩ : ∃ z : Nat → Int64, z = vp_updL U 0 (((mnS C N S (nN v) 13 0).toInt32).toInt64) := ⟨_, rfl⟩
  refine g_last X (ws' := wX x y cI cJ cZ C N S1 Qk2 X3 ++ [(u, .inl (cJ, 1, .inr (.inl U4)))]) 36 rfl (0) rfl (by omega) (Nat.le_of_ble_eq_true rfl) dL_pass_8 (by rw [eU4]; first | done | (rfl)) ?_
  refine g_goto X (tgt := 18) dL_pass_9 (by decide) ?_
  refine g_iconst X (v := nI 0) dL_pass_18 (by decide +kernel) ?_
  refine g_iret X hr hlk hQ dL_pass_19 ?_
  show g_eq _ _ _ _
  try rw [eU4]
  try rw [eX3]
  try rw [eQk2]
  try rw [eS1]
  exact ⟨rfl, rfl⟩
abbrev rm_L_passX : Room := { frames := 9, cells := 1, slots := 6, locals := 146 }
set_option maxRecDepth 100000 in
set_option maxHeartbeats 4000000 in
theorem m_L_passX (l : Launch) (hl0 : l.stackTraces = false) (D : va_G) (cI cJ cZ : ClassId) (B0 : Nat) (x : Nat → Nat) (y : Nat) (C : Cf) (N : Nat → Nat) (S : St) (Qk : Nat → Int64) (Z : St) (u : Nat) (U : Nat → Int64) (v : Int32) (hC : Cok C N) (hR : Rok C) (hX : Xok C) (hI : ∀ i, i ≤ 24 → MonOk C N (mnS C N S i)) (hM : 0 ≤ (S 13 0).toInt ∧ (S 13 0).toInt ≤ 1000) (hc1 : ¬ cP2 S v = 0) (hB : g_Bw B0 (wX x y cI cJ cZ C N S Qk Z ++ [(u, .inl (cJ, 1, .inr (.inl U)))])) : g_CtW l D cI cJ cZ B0 yL_pass cL_pass 4 (some .int) [(0, 9, 12, 15), (0, 9, 15, 17)] rm_L_passX 1 6 [.ref (x 0), .int v, .ref u] (wX x y cI cJ cZ C N S Qk Z ++ [(u, .inl (cJ, 1, .inr (.inl U)))]) (g_eq (some (.int (nI (cP2 S v)))) (wX x y cI cJ cZ C N S Qk Z ++ [(u, .inl (cJ, 1, .inr (.inl U)))])) := by
  refine g_bodyW RL [(0, .ref (x 0)), (1, .int v), (2, .ref u)] kH_L rfl (Nat.le_of_ble_eq_true rfl) rfl hB ?_
  intro p e s m args below meth c A X Y hT hr hlk hmn Q hQ
  refine g_aload_n X 2 dL_pass_0 rfl rfl ?_
  refine g_iconst X (v := nI 0) dL_pass_1 (by decide +kernel) ?_
  refine g_aload_n X 0 dL_pass_2 rfl rfl ?_
  refine g_iload_n X 1 dL_pass_3 rfl rfl ?_
  have hle : cP2 S v ≤ 2 := by unfold cP2; (repeat' split) <;> omega
  rcases (show cP2 S v = 1 ∨ cP2 S v = 2 by omega) with hk | hk
  · --
    have hE : eC (cP2 S v) = xA := by rw [hk]; rfl
    have hm := m_X6_passX l hl0 D cI cJ cZ B0 x y C N S Qk Z v hC hR hX hI hM hc1 (fun k q h => hB k q ((List.getElem?_append_left (List.getElem?_eq_some_iff.mp h).1).trans h))
    rw [hE] at hm
    refine g_callVC X Y (As := [.int v]) (rest := [.int (nI 0), .ref u]) hm kM_L_50 kI_yX6_pass kS_yX6_pass kZ_RX6 kC_yX6_pass hV_X6_pass rfl rfl rfl 0 rfl (ci := 6) rfl ⟨Nat.le_of_ble_eq_true rfl, Nat.le_of_ble_eq_true rfl⟩ ⟨Nat.le_of_ble_eq_true rfl, Nat.le_of_ble_eq_true rfl⟩ (Nat.le_of_ble_eq_true rfl) dL_pass_4 rfl (em_I 0 36 36 0) (em_C (by decide) (Nat.le_of_ble_eq_true rfl) rfl) (em_nd (by decide)) (em3 0 36 36 0 (by decide) (Nat.le_of_ble_eq_true rfl) rfl rfl rfl) [] ⟨0, 9, 12, 15⟩ [⟨0, 9, 15, 17⟩] hT (by decide) (fun z hz => by simp at hz) (by decide) (by decide) kQ_L_15 (fun q9 => ?_)
    refine g_astore_n X [(3, .ref q9), (0, .ref (x 0)), (1, .int v), (2, .ref u)] dL_pass_12 rfl (Nat.le_of_ble_eq_true rfl) rfl ?_
    refine g_iconst X (v := nI 1) dL_pass_13 (by decide +kernel) ?_
    refine g_iret X hr hlk hQ dL_pass_14 ?_
    show g_eq _ _ _ _
    refine ⟨?_, rfl⟩
    rw [hk]
  · --
    have hE : eC (cP2 S v) = xS := by rw [hk]; rfl
    have hm := m_X6_passX l hl0 D cI cJ cZ B0 x y C N S Qk Z v hC hR hX hI hM hc1 (fun k q h => hB k q ((List.getElem?_append_left (List.getElem?_eq_some_iff.mp h).1).trans h))
    rw [hE] at hm
    refine g_callVC X Y (As := [.int v]) (rest := [.int (nI 0), .ref u]) hm kM_L_50 kI_yX6_pass kS_yX6_pass kZ_RX6 kC_yX6_pass hV_X6_pass rfl rfl rfl 0 rfl (ci := 6) rfl ⟨Nat.le_of_ble_eq_true rfl, Nat.le_of_ble_eq_true rfl⟩ ⟨Nat.le_of_ble_eq_true rfl, Nat.le_of_ble_eq_true rfl⟩ (Nat.le_of_ble_eq_true rfl) dL_pass_4 rfl (em_I 0 36 36 0) (em_C (by decide) (Nat.le_of_ble_eq_true rfl) rfl) (em_nd (by decide)) (em3 0 36 36 0 (by decide) (Nat.le_of_ble_eq_true rfl) rfl rfl rfl) [⟨0, 9, 12, 15⟩] ⟨0, 9, 15, 17⟩ [] hT (by decide) (fun z hz => by simp only [List.mem_cons, List.not_mem_nil, or_false] at hz; subst hz; exact ⟨by decide, xA, by decide, by decide, kQ_L_15⟩) (by decide) (by decide) kQ_L_17 (fun q9 => ?_)
    refine g_astore_n X [(3, .ref q9), (0, .ref (x 0)), (1, .int v), (2, .ref u)] dL_pass_15 rfl (Nat.le_of_ble_eq_true rfl) rfl ?_
    refine g_iconst X (v := nI 2) dL_pass_16 (by decide +kernel) ?_
    refine g_iret X hr hlk hQ dL_pass_17 ?_
    show g_eq _ _ _ _
    refine ⟨?_, rfl⟩
    rw [hk]
theorem hV_L_ofBlock : yL_ofBlock.cls = RL ∧ yL_ofBlock.cls ≠ "java/lang/invoke/MethodHandle" ∧ yL_ofBlock.cls ≠ "java/lang/invoke/VarHandle" ∧ (parseMethodDescriptor yL_ofBlock.desc).map (fun d => d.parameters.length) = some 4 := by decide +kernel
abbrev rm_L_ofBlock : Room := { frames := 3, cells := 0, slots := 0, locals := 67 }
set_option maxRecDepth 100000 in
set_option maxHeartbeats 4000000 in
theorem m_L_ofBlock (l : Launch) (hl0 : l.stackTraces = false) (D : va_G) (cI cJ cZ : ClassId) (B0 : Nat) (x : Nat → Nat) (y : Nat) (C : Cf) (N : Nat → Nat) (S : St) (Qk : Nat → Int64) (Z : St) (u : Nat) (U : Nat → Int64) (v q : Int32) (hW : Wok S) (hc0 : cB2 v q 5 = 0) (hB : g_Bw B0 (wX x y cI cJ cZ C N S Qk Z ++ [(u, .inl (cJ, 1, .inr (.inl U)))])) : g_CtW l D cI cJ cZ B0 yL_ofBlock cL_ofBlock 5 (some .int) [(0, 9, 12, 13), (0, 9, 16, 15)] rm_L_ofBlock 0 0 [.ref (x 0), .int v, .int q, .ref u] (wX x y cI cJ cZ C N S Qk Z ++ [(u, .inl (cJ, 1, .inr (.inl U)))]) (g_eq (some (.int (nI 0))) (wX x y cI cJ cZ C N S Qk Z ++ [(u, .inl (cJ, 1, .inr (.inl (vp_updL U 0 ((tellG S (nN v) (nN q)))))))])) := by
  refine g_bodyW RL [(0, .ref (x 0)), (1, .int v), (2, .int q), (3, .ref u)] kH_L rfl (Nat.le_of_ble_eq_true rfl) rfl hB ?_
  intro p e s m args below meth c A X Y hT hr hlk hmn Q hQ
  refine g_aload_n X 3 dL_ofBlock_0 rfl rfl ?_
  refine g_iconst X (v := nI 0) dL_ofBlock_1 (by decide +kernel) ?_
  refine g_aload_n X 0 dL_ofBlock_2 rfl rfl ?_
  refine g_iload_n X 1 dL_ofBlock_3 rfl rfl ?_
  refine g_iload_n X 2 dL_ofBlock_4 rfl rfl ?_
  refine g_callV X (As := [.int v, .int q]) (rest := [.int (nI 0), .ref u]) (m_X6_ofBlock l D cI cJ cZ x y C N S Qk Z v q hW hc0) kM_L_53 kI_yX6_ofBlock kS_yX6_ofBlock kZ_RX6 kC_yX6_ofBlock hV_X6_ofBlock rfl rfl rfl 0 rfl (ci := 6) rfl ⟨Nat.le_of_ble_eq_true rfl, Nat.le_of_ble_eq_true rfl⟩ ⟨Nat.le_of_ble_eq_true rfl, Nat.le_of_ble_eq_true rfl⟩ (Nat.le_of_ble_eq_true rfl) dL_ofBlock_5 rfl (em_I 0 36 36 0) (em_C (by decide) (Nat.le_of_ble_eq_true rfl) rfl) (em_nd (by decide)) (g_kk1 (w2 := wX x y cI cJ cZ C N S Qk Z ++ [(u, .inl (cJ, 1, .inr (.inl U)))]) (em3 0 36 36 0 (by decide) (Nat.le_of_ble_eq_true rfl) rfl rfl rfl) ?_)
  obtain ⟨U1, eU1⟩ : ∃ z : Nat → Int64, z = vp_updL U 0 (tellG S (nN v) (nN q)) := ⟨_, rfl⟩
  refine g_last X (ws' := wX x y cI cJ cZ C N S Qk Z ++ [(u, .inl (cJ, 1, .inr (.inl U1)))]) 36 rfl (0) rfl (by omega) (Nat.le_of_ble_eq_true rfl) dL_ofBlock_8 (by rw [eU1]; first | done | (rfl)) ?_
  refine g_goto X (tgt := 20) dL_ofBlock_9 (by decide) ?_
  refine g_iconst X (v := nI 0) dL_ofBlock_20 (by decide +kernel) ?_
  refine g_iret X hr hlk hQ dL_ofBlock_21 ?_
  show g_eq _ _ _ _
  try rw [eU1]
  exact ⟨rfl, rfl⟩
abbrev rm_L_ofBlockX : Room := { frames := 9, cells := 1, slots := 6, locals := 146 }
set_option maxRecDepth 100000 in
set_option maxHeartbeats 4000000 in
theorem m_L_ofBlockX (l : Launch) (hl0 : l.stackTraces = false) (D : va_G) (cI cJ cZ : ClassId) (B0 : Nat) (x : Nat → Nat) (y : Nat) (C : Cf) (N : Nat → Nat) (S : St) (Qk : Nat → Int64) (Z : St) (u : Nat) (U : Nat → Int64) (v q : Int32) (hW : Wok S) (hc1 : ¬ cB2 v q 5 = 0) (hB : g_Bw B0 (wX x y cI cJ cZ C N S Qk Z ++ [(u, .inl (cJ, 1, .inr (.inl U)))])) : g_CtW l D cI cJ cZ B0 yL_ofBlock cL_ofBlock 5 (some .int) [(0, 9, 12, 13), (0, 9, 16, 15)] rm_L_ofBlockX 1 6 [.ref (x 0), .int v, .int q, .ref u] (wX x y cI cJ cZ C N S Qk Z ++ [(u, .inl (cJ, 1, .inr (.inl U)))]) (g_eq (some (.int (nI (cB2 v q 5)))) (wX x y cI cJ cZ C N S Qk Z ++ [(u, .inl (cJ, 1, .inr (.inl U)))])) := by
  refine g_bodyW RL [(0, .ref (x 0)), (1, .int v), (2, .int q), (3, .ref u)] kH_L rfl (Nat.le_of_ble_eq_true rfl) rfl hB ?_
  intro p e s m args below meth c A X Y hT hr hlk hmn Q hQ
  refine g_aload_n X 3 dL_ofBlock_0 rfl rfl ?_
  refine g_iconst X (v := nI 0) dL_ofBlock_1 (by decide +kernel) ?_
  refine g_aload_n X 0 dL_ofBlock_2 rfl rfl ?_
  refine g_iload_n X 1 dL_ofBlock_3 rfl rfl ?_
  refine g_iload_n X 2 dL_ofBlock_4 rfl rfl ?_
  have hle : cB2 v q 5 ≤ 2 := by unfold cB2; (repeat' split) <;> omega
  rcases (show cB2 v q 5 = 1 ∨ cB2 v q 5 = 2 by omega) with hk | hk
  · --
    have hE : eA (cB2 v q 5) = xI := by rw [hk]; rfl
    have hm := m_X6_ofBlockX l hl0 D cI cJ cZ B0 x y C N S Qk Z v q hW hc1 (fun k q h => hB k q ((List.getElem?_append_left (List.getElem?_eq_some_iff.mp h).1).trans h))
    rw [hE] at hm
    refine g_callVC X Y (As := [.int v, .int q]) (rest := [.int (nI 0), .ref u]) hm kM_L_53 kI_yX6_ofBlock kS_yX6_ofBlock kZ_RX6 kC_yX6_ofBlock hV_X6_ofBlock rfl rfl rfl 0 rfl (ci := 6) rfl ⟨Nat.le_of_ble_eq_true rfl, Nat.le_of_ble_eq_true rfl⟩ ⟨Nat.le_of_ble_eq_true rfl, Nat.le_of_ble_eq_true rfl⟩ (Nat.le_of_ble_eq_true rfl) dL_ofBlock_5 rfl (em_I 0 36 36 0) (em_C (by decide) (Nat.le_of_ble_eq_true rfl) rfl) (em_nd (by decide)) (em3 0 36 36 0 (by decide) (Nat.le_of_ble_eq_true rfl) rfl rfl rfl) [] ⟨0, 9, 12, 13⟩ [⟨0, 9, 16, 15⟩] hT (by decide) (fun z hz => by simp at hz) (by decide) (by decide) kQ_L_13 (fun q9 => ?_)
    refine g_astore X [(4, .ref q9), (0, .ref (x 0)), (1, .int v), (2, .int q), (3, .ref u)] dL_ofBlock_12 (Nat.le_of_ble_eq_true rfl) rfl ?_
    refine g_iconst X (v := nI 1) dL_ofBlock_14 (by decide +kernel) ?_
    refine g_iret X hr hlk hQ dL_ofBlock_15 ?_
    show g_eq _ _ _ _
    refine ⟨?_, rfl⟩
    rw [hk]
  · --
    have hE : eA (cB2 v q 5) = xA := by rw [hk]; rfl
    have hm := m_X6_ofBlockX l hl0 D cI cJ cZ B0 x y C N S Qk Z v q hW hc1 (fun k q h => hB k q ((List.getElem?_append_left (List.getElem?_eq_some_iff.mp h).1).trans h))
    rw [hE] at hm
    refine g_callVC X Y (As := [.int v, .int q]) (rest := [.int (nI 0), .ref u]) hm kM_L_53 kI_yX6_ofBlock kS_yX6_ofBlock kZ_RX6 kC_yX6_ofBlock hV_X6_ofBlock rfl rfl rfl 0 rfl (ci := 6) rfl ⟨Nat.le_of_ble_eq_true rfl, Nat.le_of_ble_eq_true rfl⟩ ⟨Nat.le_of_ble_eq_true rfl, Nat.le_of_ble_eq_true rfl⟩ (Nat.le_of_ble_eq_true rfl) dL_ofBlock_5 rfl (em_I 0 36 36 0) (em_C (by decide) (Nat.le_of_ble_eq_true rfl) rfl) (em_nd (by decide)) (em3 0 36 36 0 (by decide) (Nat.le_of_ble_eq_true rfl) rfl rfl rfl) [⟨0, 9, 12, 13⟩] ⟨0, 9, 16, 15⟩ [] hT (by decide) (fun z hz => by simp only [List.mem_cons, List.not_mem_nil, or_false] at hz; subst hz; exact ⟨by decide, xI, by decide, by decide, kQ_L_13⟩) (by decide) (by decide) kQ_L_15 (fun q9 => ?_)
    refine g_astore X [(4, .ref q9), (0, .ref (x 0)), (1, .int v), (2, .int q), (3, .ref u)] dL_ofBlock_16 (Nat.le_of_ble_eq_true rfl) rfl ?_
    refine g_iconst X (v := nI 2) dL_ofBlock_18 (by decide +kernel) ?_
    refine g_iret X hr hlk hQ dL_ofBlock_19 ?_
    show g_eq _ _ _ _
    refine ⟨?_, rfl⟩
    rw [hk]
