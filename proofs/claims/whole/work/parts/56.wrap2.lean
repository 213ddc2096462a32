theorem hV_L_use : yL_use.cls = RL ∧ yL_use.cls ≠ "java/lang/invoke/MethodHandle" ∧ yL_use.cls ≠ "java/lang/invoke/VarHandle" ∧ (parseMethodDescriptor yL_use.desc).map (fun d => d.parameters.length) = some 4 := by decide +kernel
abbrev rm_L_use : Room := { frames := 3, cells := 0, slots := 0, locals := 64 }
set_option maxRecDepth 100000 in
set_option maxHeartbeats 4000000 in
theorem m_L_use (l : Launch) (hl0 : l.stackTraces = false) (D : va_G) (cI cJ cZ : ClassId) (B0 : Nat) (x : Nat → Nat) (y : Nat) (C : Cf) (N : Nat → Nat) (S : St) (Qk : Nat → Int64) (Z : St) (u : Nat) (U : Nat → Int64) (v q : Int32) (hC : Cok C N) (hc0 : cU2 (N 1) v q = 0) (hB : g_Bw B0 (wX x y cI cJ cZ C N S Qk Z ++ [(u, .inl (cJ, 1, .inr (.inl U)))])) : g_CtW l D cI cJ cZ B0 yL_use cL_use 5 (some .int) [(0, 10, 13, 15), (0, 10, 17, 17)] rm_L_use 0 0 [.ref (x 0), .int v, .int q, .ref u] (wX x y cI cJ cZ C N S Qk Z ++ [(u, .inl (cJ, 1, .inr (.inl U)))]) (g_eq (some (.int (nI 0))) (wX x y cI cJ cZ (c2 (c2 C 5 (N 1) v) 6 (N 1) q) (n2 N 1 (N 1 + 1)) S Qk Z ++ [(u, .inl (cJ, 1, .inr (.inl (vp_updL U 0 ((nI (N 1)).toInt64)))))])) := by
  refine g_bodyW RL [(0, .ref (x 0)), (1, .int v), (2, .int q), (3, .ref u)] kH_L rfl (Nat.le_of_ble_eq_true rfl) rfl hB ?_
  intro p e s m args below meth c A X Y hT hr hlk hmn Q hQ
  refine g_aload_n X 3 dL_use_0 rfl rfl ?_
  refine g_iconst X (v := nI 0) dL_use_1 (by decide +kernel) ?_
  refine g_aload_n X 0 dL_use_2 rfl rfl ?_
  refine g_iload_n X 1 dL_use_3 rfl rfl ?_
  refine g_iload_n X 2 dL_use_4 rfl rfl ?_
  obtain ⟨C1, eC1⟩ : ∃ z : Cf, z = (c2 (c2 C 5 (N 1) v) 6 (N 1) q) := ⟨_, rfl⟩
  obtain ⟨N2, eN2⟩ : ∃ z : Nat → Nat, z = (n2 N 1 (N 1 + 1)) := ⟨_, rfl⟩
  refine g_callV X (As := [.int v, .int q]) (rest := [.int (nI 0), .ref u]) (m_X6_use l D cI cJ cZ x y C N S Qk Z v q hC hc0) kM_L_37 kI_yX6_use kS_yX6_use kZ_RX6 kC_yX6_use hV_X6_use rfl rfl rfl 0 rfl (ci := 6) rfl ⟨Nat.le_of_ble_eq_true rfl, Nat.le_of_ble_eq_true rfl⟩ ⟨Nat.le_of_ble_eq_true rfl, Nat.le_of_ble_eq_true rfl⟩ (Nat.le_of_ble_eq_true rfl) dL_use_5 rfl (em_I 0 36 36 0) (em_C (by decide) (Nat.le_of_ble_eq_true rfl) rfl) (em_nd (by decide)) (g_kk1 (w2 := wX x y cI cJ cZ C1 N2 S Qk Z ++ [(u, .inl (cJ, 1, .inr (.inl U)))]) (by rw [eN2]; rw [eC1]; exact (em3 0 36 36 0 (by decide) (Nat.le_of_ble_eq_true rfl) rfl rfl rfl)) ?_)
  refine g_i2l X (v := (nI (N 1)).toInt64) dL_use_8 rfl ?_
  obtain ⟨U3, eU3⟩ : ∃ z : Nat → Int64, z = vp_updL U 0 ((nI (N 1)).toInt64) := ⟨_, rfl⟩
  refine g_last X (ws' := wX x y cI cJ cZ C1 N2 S Qk Z ++ [(u, .inl (cJ, 1, .inr (.inl U3)))]) 36 rfl (0) rfl (by omega) (Nat.le_of_ble_eq_true rfl) dL_use_9 (by rw [eU3]; first | done | (rfl)) ?_
  refine g_goto X (tgt := 21) dL_use_10 (by decide) ?_
  refine g_iconst X (v := nI 0) dL_use_21 (by decide +kernel) ?_
  refine g_iret X hr hlk hQ dL_use_22 ?_
  show g_eq _ _ _ _
  try rw [eU3]
  try rw [eN2]
  try rw [eC1]
  exact ⟨rfl, rfl⟩
abbrev rm_L_useX : Room := { frames := 9, cells := 1, slots := 6, locals := 146 }
set_option maxRecDepth 100000 in
set_option maxHeartbeats 4000000 in
theorem m_L_useX (l : Launch) (hl0 : l.stackTraces = false) (D : va_G) (cI cJ cZ : ClassId) (B0 : Nat) (x : Nat → Nat) (y : Nat) (C : Cf) (N : Nat → Nat) (S : St) (Qk : Nat → Int64) (Z : St) (u : Nat) (U : Nat → Int64) (v q : Int32) (hC : Cok C N) (hc1 : ¬ cU2 (N 1) v q = 0) (hB : g_Bw B0 (wX x y cI cJ cZ C N S Qk Z ++ [(u, .inl (cJ, 1, .inr (.inl U)))])) : g_CtW l D cI cJ cZ B0 yL_use cL_use 5 (some .int) [(0, 10, 13, 15), (0, 10, 17, 17)] rm_L_useX 1 6 [.ref (x 0), .int v, .int q, .ref u] (wX x y cI cJ cZ C N S Qk Z ++ [(u, .inl (cJ, 1, .inr (.inl U)))]) (g_eq (some (.int (nI (cU2 (N 1) v q)))) (wX x y cI cJ cZ C N S Qk Z ++ [(u, .inl (cJ, 1, .inr (.inl U)))])) := by
  refine g_bodyW RL [(0, .ref (x 0)), (1, .int v), (2, .int q), (3, .ref u)] kH_L rfl (Nat.le_of_ble_eq_true rfl) rfl hB ?_
  intro p e s m args below meth c A X Y hT hr hlk hmn Q hQ
  refine g_aload_n X 3 dL_use_0 rfl rfl ?_
  refine g_iconst X (v := nI 0) dL_use_1 (by decide +kernel) ?_
  refine g_aload_n X 0 dL_use_2 rfl rfl ?_
  refine g_iload_n X 1 dL_use_3 rfl rfl ?_
  refine g_iload_n X 2 dL_use_4 rfl rfl ?_
  have hle : cU2 (N 1) v q ≤ 2 := by unfold cU2; (repeat' split) <;> omega
  rcases (show cU2 (N 1) v q = 1 ∨ cU2 (N 1) v q = 2 by omega) with hk | hk
  · --
    have hE : eC (cU2 (N 1) v q) = xA := by rw [hk]; rfl
    have hm := m_X6_useX l hl0 D cI cJ cZ B0 x y C N S Qk Z v q hC hc1 (fun k q h => hB k q ((List.getElem?_append_left (List.getElem?_eq_some_iff.mp h).1).trans h))
    rw [hE] at hm
    refine g_callVC X Y (As := [.int v, .int q]) (rest := [.int (nI 0), .ref u]) hm kM_L_37 kI_yX6_use kS_yX6_use kZ_RX6 kC_yX6_use hV_X6_use rfl rfl rfl 0 rfl (ci := 6) rfl ⟨Nat.le_of_ble_eq_true rfl, Nat.le_of_ble_eq_true rfl⟩ ⟨Nat.le_of_ble_eq_true rfl, Nat.le_of_ble_eq_true rfl⟩ (Nat.le_of_ble_eq_true rfl) dL_use_5 rfl (em_I 0 36 36 0) (em_C (by decide) (Nat.le_of_ble_eq_true rfl) rfl) (em_nd (by decide)) (em3 0 36 36 0 (by decide) (Nat.le_of_ble_eq_true rfl) rfl rfl rfl) [] ⟨0, 10, 13, 15⟩ [⟨0, 10, 17, 17⟩] hT (by decide) (fun z hz => by simp at hz) (by decide) (by decide) kQ_L_15 (fun q9 => ?_)
    refine g_astore X [(4, .ref q9), (0, .ref (x 0)), (1, .int v), (2, .int q), (3, .ref u)] dL_use_13 (Nat.le_of_ble_eq_true rfl) rfl ?_
    refine g_iconst X (v := nI 1) dL_use_15 (by decide +kernel) ?_
    refine g_iret X hr hlk hQ dL_use_16 ?_
    show g_eq _ _ _ _
    refine ⟨?_, rfl⟩
    rw [hk]
  · --
    have hE : eC (cU2 (N 1) v q) = xS := by rw [hk]; rfl
    have hm := m_X6_useX l hl0 D cI cJ cZ B0 x y C N S Qk Z v q hC hc1 (fun k q h => hB k q ((List.getElem?_append_left (List.getElem?_eq_some_iff.mp h).1).trans h))
    rw [hE] at hm
    refine g_callVC X Y (As := [.int v, .int q]) (rest := [.int (nI 0), .ref u]) hm kM_L_37 kI_yX6_use kS_yX6_use kZ_RX6 kC_yX6_use hV_X6_use rfl rfl rfl 0 rfl (ci := 6) rfl ⟨Nat.le_of_ble_eq_true rfl, Nat.le_of_ble_eq_true rfl⟩ ⟨Nat.le_of_ble_eq_true rfl, Nat.le_of_ble_eq_true rfl⟩ (Nat.le_of_ble_eq_true rfl) dL_use_5 rfl (em_I 0 36 36 0) (em_C (by decide) (Nat.le_of_ble_eq_true rfl) rfl) (em_nd (by decide)) (em3 0 36 36 0 (by decide) (Nat.le_of_ble_eq_true rfl) rfl rfl rfl) [⟨0, 10, 13, 15⟩] ⟨0, 10, 17, 17⟩ [] hT (by decide) (fun z hz => by simp only [List.mem_cons, List.not_mem_nil, or_false] at hz; subst hz; exact ⟨by decide, xA, by decide, by decide, kQ_L_15⟩) (by decide) (by decide) kQ_L_17 (fun q9 => ?_)
    refine g_astore X [(4, .ref q9), (0, .ref (x 0)), (1, .int v), (2, .int q), (3, .ref u)] dL_use_17 (Nat.le_of_ble_eq_true rfl) rfl ?_
    refine g_iconst X (v := nI 2) dL_use_19 (by decide +kernel) ?_
    refine g_iret X hr hlk hQ dL_use_20 ?_
    show g_eq _ _ _ _
    refine ⟨?_, rfl⟩
    rw [hk]
theorem hV_L_spring : yL_spring.cls = RL ∧ yL_spring.cls ≠ "java/lang/invoke/MethodHandle" ∧ yL_spring.cls ≠ "java/lang/invoke/VarHandle" ∧ (parseMethodDescriptor yL_spring.desc).map (fun d => d.parameters.length) = some 5 := by decide +kernel
abbrev rm_L_spring : Room := { frames := 3, cells := 0, slots := 0, locals := 65 }
set_option maxRecDepth 100000 in
set_option maxHeartbeats 4000000 in
theorem m_L_spring (l : Launch) (hl0 : l.stackTraces = false) (D : va_G) (cI cJ cZ : ClassId) (B0 : Nat) (x : Nat → Nat) (y : Nat) (C : Cf) (N : Nat → Nat) (S : St) (Qk : Nat → Int64) (Z : St) (u : Nat) (U : Nat → Int64) (v q r : Int32) (hC : Cok C N) (hc0 : cS3 (N 2) v q r = 0) (hB : g_Bw B0 (wX x y cI cJ cZ C N S Qk Z ++ [(u, .inl (cJ, 1, .inr (.inl U)))])) : g_CtW l D cI cJ cZ B0 yL_spring cL_spring 6 (some .int) [(0, 12, 15, 13), (0, 12, 19, 15), (0, 12, 23, 17)] rm_L_spring 0 0 [.ref (x 0), .int v, .int q, .int r, .ref u] (wX x y cI cJ cZ C N S Qk Z ++ [(u, .inl (cJ, 1, .inr (.inl U)))]) (g_eq (some (.int (nI 0))) (wX x y cI cJ cZ (c2 (c2 (c2 C 7 (N 2) v) 8 (N 2) q) 9 (N 2) r) (n2 N 2 (N 2 + 1)) S Qk Z ++ [(u, .inl (cJ, 1, .inr (.inl (vp_updL U 0 ((nI (N 2)).toInt64)))))])) := by
  refine g_bodyW RL [(0, .ref (x 0)), (1, .int v), (2, .int q), (3, .int r), (4, .ref u)] kH_L rfl (Nat.le_of_ble_eq_true rfl) rfl hB ?_
  intro p e s m args below meth c A X Y hT hr hlk hmn Q hQ
  refine g_aload X 4 dL_spring_0 rfl ?_
  refine g_iconst X (v := nI 0) dL_spring_2 (by decide +kernel) ?_
  refine g_aload_n X 0 dL_spring_3 rfl rfl ?_
  refine g_iload_n X 1 dL_spring_4 rfl rfl ?_
  refine g_iload_n X 2 dL_spring_5 rfl rfl ?_
  refine g_iload_n X 3 dL_spring_6 rfl rfl ?_
  obtain ⟨C1, eC1⟩ : ∃ z : Cf, z = (c2 (c2 (c2 C 7 (N 2) v) 8 (N 2) q) 9 (N 2) r) := ⟨_, rfl⟩
  obtain ⟨N2, eN2⟩ : ∃ z : Nat → Nat, z = (n2 N 2 (N 2 + 1)) := ⟨_, rfl⟩
  refine g_callV X (As := [.int v, .int q, .int r]) (rest := [.int (nI 0), .ref u]) (m_X6_spring l D cI cJ cZ x y C N S Qk Z v q r hC hc0) kM_L_40 kI_yX6_spring kS_yX6_spring kZ_RX6 kC_yX6_spring hV_X6_spring rfl rfl rfl 0 rfl (ci := 6) rfl ⟨Nat.le_of_ble_eq_true rfl, Nat.le_of_ble_eq_true rfl⟩ ⟨Nat.le_of_ble_eq_true rfl, Nat.le_of_ble_eq_true rfl⟩ (Nat.le_of_ble_eq_true rfl) dL_spring_7 rfl (em_I 0 36 36 0) (em_C (by decide) (Nat.le_of_ble_eq_true rfl) rfl) (em_nd (by decide)) (g_kk1 (w2 := wX x y cI cJ cZ C1 N2 S Qk Z ++ [(u, .inl (cJ, 1, .inr (.inl U)))]) (by rw [eN2]; rw [eC1]; exact (em3 0 36 36 0 (by decide) (Nat.le_of_ble_eq_true rfl) rfl rfl rfl)) ?_)
  refine g_i2l X (v := (nI (N 2)).toInt64) dL_spring_10 rfl ?_
  obtain ⟨U3, eU3⟩ : ∃ z : Nat → Int64, z = vp_updL U 0 ((nI (N 2)).toInt64) := ⟨_, rfl⟩
  refine g_last X (ws' := wX x y cI cJ cZ C1 N2 S Qk Z ++ [(u, .inl (cJ, 1, .inr (.inl U3)))]) 36 rfl (0) rfl (by omega) (Nat.le_of_ble_eq_true rfl) dL_spring_11 (by rw [eU3]; first | done | (rfl)) ?_
  refine g_goto X (tgt := 27) dL_spring_12 (by decide) ?_
  refine g_iconst X (v := nI 0) dL_spring_27 (by decide +kernel) ?_
  refine g_iret X hr hlk hQ dL_spring_28 ?_
  show g_eq _ _ _ _
  try rw [eU3]
  try rw [eN2]
  try rw [eC1]
  exact ⟨rfl, rfl⟩
abbrev rm_L_springX : Room := { frames := 9, cells := 1, slots := 6, locals := 147 }
set_option maxRecDepth 100000 in
set_option maxHeartbeats 4000000 in
theorem m_L_springX (l : Launch) (hl0 : l.stackTraces = false) (D : va_G) (cI cJ cZ : ClassId) (B0 : Nat) (x : Nat → Nat) (y : Nat) (C : Cf) (N : Nat → Nat) (S : St) (Qk : Nat → Int64) (Z : St) (u : Nat) (U : Nat → Int64) (v q r : Int32) (hC : Cok C N) (hc1 : ¬ cS3 (N 2) v q r = 0) (hB : g_Bw B0 (wX x y cI cJ cZ C N S Qk Z ++ [(u, .inl (cJ, 1, .inr (.inl U)))])) : g_CtW l D cI cJ cZ B0 yL_spring cL_spring 6 (some .int) [(0, 12, 15, 13), (0, 12, 19, 15), (0, 12, 23, 17)] rm_L_springX 1 6 [.ref (x 0), .int v, .int q, .int r, .ref u] (wX x y cI cJ cZ C N S Qk Z ++ [(u, .inl (cJ, 1, .inr (.inl U)))]) (g_eq (some (.int (nI (cS3 (N 2) v q r)))) (wX x y cI cJ cZ C N S Qk Z ++ [(u, .inl (cJ, 1, .inr (.inl U)))])) := by
  refine g_bodyW RL [(0, .ref (x 0)), (1, .int v), (2, .int q), (3, .int r), (4, .ref u)] kH_L rfl (Nat.le_of_ble_eq_true rfl) rfl hB ?_
  intro p e s m args below meth c A X Y hT hr hlk hmn Q hQ
  refine g_aload X 4 dL_spring_0 rfl ?_
  refine g_iconst X (v := nI 0) dL_spring_2 (by decide +kernel) ?_
  refine g_aload_n X 0 dL_spring_3 rfl rfl ?_
  refine g_iload_n X 1 dL_spring_4 rfl rfl ?_
  refine g_iload_n X 2 dL_spring_5 rfl rfl ?_
  refine g_iload_n X 3 dL_spring_6 rfl rfl ?_
  have hle : cS3 (N 2) v q r ≤ 3 := by unfold cS3; (repeat' split) <;> omega
  rcases (show cS3 (N 2) v q r = 1 ∨ cS3 (N 2) v q r = 2 ∨ cS3 (N 2) v q r = 3 by omega) with hk | hk | hk
  · --
    have hE : eA (cS3 (N 2) v q r) = xI := by rw [hk]; rfl
    have hm := m_X6_springX l hl0 D cI cJ cZ B0 x y C N S Qk Z v q r hC hc1 (fun k q h => hB k q ((List.getElem?_append_left (List.getElem?_eq_some_iff.mp h).1).trans h))
    rw [hE] at hm
    refine g_callVC X Y (As := [.int v, .int q, .int r]) (rest := [.int (nI 0), .ref u]) hm kM_L_40 kI_yX6_spring kS_yX6_spring kZ_RX6 kC_yX6_spring hV_X6_spring rfl rfl rfl 0 rfl (ci := 6) rfl ⟨Nat.le_of_ble_eq_true rfl, Nat.le_of_ble_eq_true rfl⟩ ⟨Nat.le_of_ble_eq_true rfl, Nat.le_of_ble_eq_true rfl⟩ (Nat.le_of_ble_eq_true rfl) dL_spring_7 rfl (em_I 0 36 36 0) (em_C (by decide) (Nat.le_of_ble_eq_true rfl) rfl) (em_nd (by decide)) (em3 0 36 36 0 (by decide) (Nat.le_of_ble_eq_true rfl) rfl rfl rfl) [] ⟨0, 12, 15, 13⟩ [⟨0, 12, 19, 15⟩, ⟨0, 12, 23, 17⟩] hT (by decide) (fun z hz => by simp at hz) (by decide) (by decide) kQ_L_13 (fun q9 => ?_)
    refine g_astore X [(5, .ref q9), (0, .ref (x 0)), (1, .int v), (2, .int q), (3, .int r), (4, .ref u)] dL_spring_15 (Nat.le_of_ble_eq_true rfl) rfl ?_
    refine g_iconst X (v := nI 1) dL_spring_17 (by decide +kernel) ?_
    refine g_iret X hr hlk hQ dL_spring_18 ?_
    show g_eq _ _ _ _
    refine ⟨?_, rfl⟩
    rw [hk]
  · --
    have hE : eA (cS3 (N 2) v q r) = xA := by rw [hk]; rfl
    have hm := m_X6_springX l hl0 D cI cJ cZ B0 x y C N S Qk Z v q r hC hc1 (fun k q h => hB k q ((List.getElem?_append_left (List.getElem?_eq_some_iff.mp h).1).trans h))
    rw [hE] at hm
    refine g_callVC X Y (As := [.int v, .int q, .int r]) (rest := [.int (nI 0), .ref u]) hm kM_L_40 kI_yX6_spring kS_yX6_spring kZ_RX6 kC_yX6_spring hV_X6_spring rfl rfl rfl 0 rfl (ci := 6) rfl ⟨Nat.le_of_ble_eq_true rfl, Nat.le_of_ble_eq_true rfl⟩ ⟨Nat.le_of_ble_eq_true rfl, Nat.le_of_ble_eq_true rfl⟩ (Nat.le_of_ble_eq_true rfl) dL_spring_7 rfl (em_I 0 36 36 0) (em_C (by decide) (Nat.le_of_ble_eq_true rfl) rfl) (em_nd (by decide)) (em3 0 36 36 0 (by decide) (Nat.le_of_ble_eq_true rfl) rfl rfl rfl) [⟨0, 12, 15, 13⟩] ⟨0, 12, 19, 15⟩ [⟨0, 12, 23, 17⟩] hT (by decide) (fun z hz => by simp only [List.mem_cons, List.not_mem_nil, or_false] at hz; subst hz; exact ⟨by decide, xI, by decide, by decide, kQ_L_13⟩) (by decide) (by decide) kQ_L_15 (fun q9 => ?_)
    refine g_astore X [(5, .ref q9), (0, .ref (x 0)), (1, .int v), (2, .int q), (3, .int r), (4, .ref u)] dL_spring_19 (Nat.le_of_ble_eq_true rfl) rfl ?_
    refine g_iconst X (v := nI 2) dL_spring_21 (by decide +kernel) ?_
    refine g_iret X hr hlk hQ dL_spring_22 ?_
    show g_eq _ _ _ _
    refine ⟨?_, rfl⟩
    rw [hk]
  · --
    have hE : eA (cS3 (N 2) v q r) = xS := by rw [hk]; rfl
    have hm := m_X6_springX l hl0 D cI cJ cZ B0 x y C N S Qk Z v q r hC hc1 (fun k q h => hB k q ((List.getElem?_append_left (List.getElem?_eq_some_iff.mp h).1).trans h))
    rw [hE] at hm
    refine g_callVC X Y (As := [.int v, .int q, .int r]) (rest := [.int (nI 0), .ref u]) hm kM_L_40 kI_yX6_spring kS_yX6_spring kZ_RX6 kC_yX6_spring hV_X6_spring rfl rfl rfl 0 rfl (ci := 6) rfl ⟨Nat.le_of_ble_eq_true rfl, Nat.le_of_ble_eq_true rfl⟩ ⟨Nat.le_of_ble_eq_true rfl, Nat.le_of_ble_eq_true rfl⟩ (Nat.le_of_ble_eq_true rfl) dL_spring_7 rfl (em_I 0 36 36 0) (em_C (by decide) (Nat.le_of_ble_eq_true rfl) rfl) (em_nd (by decide)) (em3 0 36 36 0 (by decide) (Nat.le_of_ble_eq_true rfl) rfl rfl rfl) [⟨0, 12, 15, 13⟩, ⟨0, 12, 19, 15⟩] ⟨0, 12, 23, 17⟩ [] hT (by decide) (fun z hz => by simp only [List.mem_cons, List.not_mem_nil, or_false] at hz; rcases hz with rfl | rfl; exact ⟨by decide, xI, by decide, by decide, kQ_L_13⟩; exact ⟨by decide, xA, by decide, by decide, kQ_L_15⟩) (by decide) (by decide) kQ_L_17 (fun q9 => ?_)
    refine g_astore X [(5, .ref q9), (0, .ref (x 0)), (1, .int v), (2, .int q), (3, .int r), (4, .ref u)] dL_spring_23 (Nat.le_of_ble_eq_true rfl) rfl ?_
    refine g_iconst X (v := nI 3) dL_spring_25 (by decide +kernel) ?_
    refine g_iret X hr hlk hQ dL_spring_26 ?_
    show g_eq _ _ _ _
    refine ⟨?_, rfl⟩
    rw [hk]
theorem hV_L_promise : yL_promise.cls = RL ∧ yL_promise.cls ≠ "java/lang/invoke/MethodHandle" ∧ yL_promise.cls ≠ "java/lang/invoke/VarHandle" ∧ (parseMethodDescriptor yL_promise.desc).map (fun d => d.parameters.length) = some 4 := by decide +kernel
abbrev rm_L_promise : Room := { frames := 3, cells := 0, slots := 0, locals := 65 }
set_option maxRecDepth 100000 in
set_option maxHeartbeats 4000000 in
theorem m_L_promise (l : Launch) (hl0 : l.stackTraces = false) (D : va_G) (cI cJ cZ : ClassId) (B0 : Nat) (x : Nat → Nat) (y : Nat) (C : Cf) (N : Nat → Nat) (S : St) (Qk : Nat → Int64) (Z : St) (u : Nat) (U : Nat → Int64) (v q : Int32) (hC : Cok C N) (hc0 : cI2 (N 2) v q (nI 0) (nI 50000) = 0) (hB : g_Bw B0 (wX x y cI cJ cZ C N S Qk Z ++ [(u, .inl (cJ, 1, .inr (.inl U)))])) : g_CtW l D cI cJ cZ B0 yL_promise cL_promise 5 (some .int) [(0, 10, 13, 13), (0, 10, 17, 15)] rm_L_promise 0 0 [.ref (x 0), .int v, .int q, .ref u] (wX x y cI cJ cZ C N S Qk Z ++ [(u, .inl (cJ, 1, .inr (.inl U)))]) (g_eq (some (.int (nI 0))) (wX x y cI cJ cZ (c2 C 9 (nN v) q) N S Qk Z ++ [(u, .inl (cJ, 1, .inr (.inl (vp_updL U 0 ((C 9 (nN v)).toInt64)))))])) := by
  refine g_bodyW RL [(0, .ref (x 0)), (1, .int v), (2, .int q), (3, .ref u)] kH_L rfl (Nat.le_of_ble_eq_true rfl) rfl hB ?_
  intro p e s m args below meth c A X Y hT hr hlk hmn Q hQ
  refine g_aload_n X 3 dL_promise_0 rfl rfl ?_
  refine g_iconst X (v := nI 0) dL_promise_1 (by decide +kernel) ?_
  refine g_aload_n X 0 dL_promise_2 rfl rfl ?_
  refine g_iload_n X 1 dL_promise_3 rfl rfl ?_
  refine g_iload_n X 2 dL_promise_4 rfl rfl ?_
  obtain ⟨C1, eC1⟩ : ∃ z : Cf, z = (c2 C 9 (nN v) q) := ⟨_, rfl⟩
  refine g_callV X (As := [.int v, .int q]) (rest := [.int (nI 0), .ref u]) (m_X6_promise l D cI cJ cZ x y C N S Qk Z v q hC hc0) kM_L_43 kI_yX6_promise kS_yX6_promise kZ_RX6 kC_yX6_promise hV_X6_promise rfl rfl rfl 0 rfl (ci := 6) rfl ⟨Nat.le_of_ble_eq_true rfl, Nat.le_of_ble_eq_true rfl⟩ ⟨Nat.le_of_ble_eq_true rfl, Nat.le_of_ble_eq_true rfl⟩ (Nat.le_of_ble_eq_true rfl) dL_promise_5 rfl (em_I 0 36 36 0) (em_C (by decide) (Nat.le_of_ble_eq_true rfl) rfl) (em_nd (by decide)) (g_kk1 (w2 := wX x y cI cJ cZ C1 N S Qk Z ++ [(u, .inl (cJ, 1, .inr (.inl U)))]) (by rw [eC1]; exact (em3 0 36 36 0 (by decide) (Nat.le_of_ble_eq_true rfl) rfl rfl rfl)) ?_)
  refine g_i2l X (v := (C 9 (nN v)).toInt64) dL_promise_8 rfl ?_
  obtain ⟨U2, eU2⟩ : ∃ z : Nat → Int64, z = vp_updL U 0 ((C 9 (nN v)).toInt64) := ⟨_, rfl⟩
  refine g_last X (ws' := wX x y cI cJ cZ C1 N S Qk Z ++ [(u, .inl (cJ, 1, .inr (.inl U2)))]) 36 rfl (0) rfl (by omega) (Nat.le_of_ble_eq_true rfl) dL_promise_9 (by rw [eU2]; first | done | (rfl)) ?_
  refine g_goto X (tgt := 21) dL_promise_10 (by decide) ?_
  refine g_iconst X (v := nI 0) dL_promise_21 (by decide +kernel) ?_
  refine g_iret X hr hlk hQ dL_promise_22 ?_
  show g_eq _ _ _ _
  try rw [eU2]
  try rw [eC1]
  exact ⟨rfl, rfl⟩
abbrev rm_L_promiseX : Room := { frames := 9, cells := 1, slots := 6, locals := 147 }
set_option maxRecDepth 100000 in
set_option maxHeartbeats 4000000 in
theorem m_L_promiseX (l : Launch) (hl0 : l.stackTraces = false) (D : va_G) (cI cJ cZ : ClassId) (B0 : Nat) (x : Nat → Nat) (y : Nat) (C : Cf) (N : Nat → Nat) (S : St) (Qk : Nat → Int64) (Z : St) (u : Nat) (U : Nat → Int64) (v q : Int32) (hC : Cok C N) (hc1 : ¬ cI2 (N 2) v q (nI 0) (nI 50000) = 0) (hB : g_Bw B0 (wX x y cI cJ cZ C N S Qk Z ++ [(u, .inl (cJ, 1, .inr (.inl U)))])) : g_CtW l D cI cJ cZ B0 yL_promise cL_promise 5 (some .int) [(0, 10, 13, 13), (0, 10, 17, 15)] rm_L_promiseX 1 6 [.ref (x 0), .int v, .int q, .ref u] (wX x y cI cJ cZ C N S Qk Z ++ [(u, .inl (cJ, 1, .inr (.inl U)))]) (g_eq (some (.int (nI (cI2 (N 2) v q (nI 0) (nI 50000))))) (wX x y cI cJ cZ C N S Qk Z ++ [(u, .inl (cJ, 1, .inr (.inl U)))])) := by
  refine g_bodyW RL [(0, .ref (x 0)), (1, .int v), (2, .int q), (3, .ref u)] kH_L rfl (Nat.le_of_ble_eq_true rfl) rfl hB ?_
  intro p e s m args below meth c A X Y hT hr hlk hmn Q hQ
  refine g_aload_n X 3 dL_promise_0 rfl rfl ?_
  refine g_iconst X (v := nI 0) dL_promise_1 (by decide +kernel) ?_
  refine g_aload_n X 0 dL_promise_2 rfl rfl ?_
  refine g_iload_n X 1 dL_promise_3 rfl rfl ?_
  refine g_iload_n X 2 dL_promise_4 rfl rfl ?_
  have hle : cI2 (N 2) v q (nI 0) (nI 50000) ≤ 2 := by unfold cI2; (repeat' split) <;> omega
  rcases (show cI2 (N 2) v q (nI 0) (nI 50000) = 1 ∨ cI2 (N 2) v q (nI 0) (nI 50000) = 2 by omega) with hk | hk
  · --
    have hE : eA (cI2 (N 2) v q (nI 0) (nI 50000)) = xI := by rw [hk]; rfl
    have hm := m_X6_promiseX l hl0 D cI cJ cZ B0 x y C N S Qk Z v q hC hc1 (fun k q h => hB k q ((List.getElem?_append_left (List.getElem?_eq_some_iff.mp h).1).trans h))
    rw [hE] at hm
    refine g_callVC X Y (As := [.int v, .int q]) (rest := [.int (nI 0), .ref u]) hm kM_L_43 kI_yX6_promise kS_yX6_promise kZ_RX6 kC_yX6_promise hV_X6_promise rfl rfl rfl 0 rfl (ci := 6) rfl ⟨Nat.le_of_ble_eq_true rfl, Nat.le_of_ble_eq_true rfl⟩ ⟨Nat.le_of_ble_eq_true rfl, Nat.le_of_ble_eq_true rfl⟩ (Nat.le_of_ble_eq_true rfl) dL_promise_5 rfl (em_I 0 36 36 0) (em_C (by decide) (Nat.le_of_ble_eq_true rfl) rfl) (em_nd (by decide)) (em3 0 36 36 0 (by decide) (Nat.le_of_ble_eq_true rfl) rfl rfl rfl) [] ⟨0, 10, 13, 13⟩ [⟨0, 10, 17, 15⟩] hT (by decide) (fun z hz => by simp at hz) (by decide) (by decide) kQ_L_13 (fun q9 => ?_)
    refine g_astore X [(4, .ref q9), (0, .ref (x 0)), (1, .int v), (2, .int q), (3, .ref u)] dL_promise_13 (Nat.le_of_ble_eq_true rfl) rfl ?_
    refine g_iconst X (v := nI 1) dL_promise_15 (by decide +kernel) ?_
    refine g_iret X hr hlk hQ dL_promise_16 ?_
    show g_eq _ _ _ _
    refine ⟨?_, rfl⟩
    rw [hk]
  · --
    have hE : eA (cI2 (N 2) v q (nI 0) (nI 50000)) = xA := by rw [hk]; rfl
    have hm := m_X6_promiseX l hl0 D cI cJ cZ B0 x y C N S Qk Z v q hC hc1 (fun k q h => hB k q ((List.getElem?_append_left (List.getElem?_eq_some_iff.mp h).1).trans h))
    rw [hE] at hm
    refine g_callVC X Y (As := [.int v, .int q]) (rest := [.int (nI 0), .ref u]) hm kM_L_43 kI_yX6_promise kS_yX6_promise kZ_RX6 kC_yX6_promise hV_X6_promise rfl rfl rfl 0 rfl (ci := 6) rfl ⟨Nat.le_of_ble_eq_true rfl, Nat.le_of_ble_eq_true rfl⟩ ⟨Nat.le_of_ble_eq_true rfl, Nat.le_of_ble_eq_true rfl⟩ (Nat.le_of_ble_eq_true rfl) dL_promise_5 rfl (em_I 0 36 36 0) (em_C (by decide) (Nat.le_of_ble_eq_true rfl) rfl) (em_nd (by decide)) (em3 0 36 36 0 (by decide) (Nat.le_of_ble_eq_true rfl) rfl rfl rfl) [⟨0, 10, 13, 13⟩] ⟨0, 10, 17, 15⟩ [] hT (by decide) (fun z hz => by simp only [List.mem_cons, List.not_mem_nil, or_false] at hz; subst hz; exact ⟨by decide, xI, by decide, by decide, kQ_L_13⟩) (by decide) (by decide) kQ_L_15 (fun q9 => ?_)
    refine g_astore X [(4, .ref q9), (0, .ref (x 0)), (1, .int v), (2, .int q), (3, .ref u)] dL_promise_17 (Nat.le_of_ble_eq_true rfl) rfl ?_
    refine g_iconst X (v := nI 2) dL_promise_19 (by decide +kernel) ?_
    refine g_iret X hr hlk hQ dL_promise_20 ?_
    show g_eq _ _ _ _
    refine ⟨?_, rfl⟩
    rw [hk]
