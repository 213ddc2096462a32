theorem hV_L_count : yL_count.cls = RL ∧ yL_count.cls ≠ "java/lang/invoke/MethodHandle" ∧ yL_count.cls ≠ "java/lang/invoke/VarHandle" ∧ (parseMethodDescriptor yL_count.desc).map (fun d => d.parameters.length) = some 3 := by decide +kernel
abbrev rm_L_count : Room := { frames := 3, cells := 0, slots := 0, locals := 63 }
set_option maxRecDepth 100000 in
set_option maxHeartbeats 4000000 in
theorem m_L_count (l : Launch) (hl0 : l.stackTraces = false) (D : va_G) (cI cJ cZ : ClassId) (B0 : Nat) (x : Nat → Nat) (y : Nat) (C : Cf) (N : Nat → Nat) (S : St) (Qk : Nat → Int64) (Z : St) (u : Nat) (U : Nat → Int64) (v : Int32)  (hc0 : cR1 v (nI 0) (nI 4) = 0) (hB : g_Bw B0 (wX x y cI cJ cZ C N S Qk Z ++ [(u, .inl (cJ, 1, .inr (.inl U)))])) : g_CtW l D cI cJ cZ B0 yL_count cL_count 4 (some .int) [(0, 9, 12, 15)] rm_L_count 0 0 [.ref (x 0), .int v, .ref u] (wX x y cI cJ cZ C N S Qk Z ++ [(u, .inl (cJ, 1, .inr (.inl U)))]) (g_eq (some (.int (nI 0))) (wX x y cI cJ cZ C N S Qk Z ++ [(u, .inl (cJ, 1, .inr (.inl (vp_updL U 0 ((cnM N S v).toInt64)))))])) := by
  refine g_bodyW RL [(0, .ref (x 0)), (1, .int v), (2, .ref u)] kH_L rfl (Nat.le_of_ble_eq_true rfl) rfl hB ?_
  intro p e s m args below meth c A X Y hT hr hlk hmn Q hQ
  refine g_aload_n X 2 dL_count_0 rfl rfl ?_
  refine g_iconst X (v := nI 0) dL_count_1 (by decide +kernel) ?_
  refine g_aload_n X 0 dL_count_2 rfl rfl ?_
  refine g_iload_n X 1 dL_count_3 rfl rfl ?_
  refine g_callV X (As := [.int v]) (rest := [.int (nI 0), .ref u]) (m_X6_count l D cI cJ cZ x y C N S Qk Z v hc0) kM_L_69 kI_yX6_count kS_yX6_count kZ_RX6 kC_yX6_count hV_X6_count rfl rfl rfl 0 rfl (ci := 6) rfl ⟨Nat.le_of_ble_eq_true rfl, Nat.le_of_ble_eq_true rfl⟩ ⟨Nat.le_of_ble_eq_true rfl, Nat.le_of_ble_eq_true rfl⟩ (Nat.le_of_ble_eq_true rfl) dL_count_4 rfl (em_I 0 36 36 0) (em_C (by decide) (Nat.le_of_ble_eq_true rfl) rfl) (em_nd (by decide)) (g_kk1 (w2 := wX x y cI cJ cZ C N S Qk Z ++ [(u, .inl (cJ, 1, .inr (.inl U)))]) (em3 0 36 36 0 (by decide) (Nat.le_of_ble_eq_true rfl) rfl rfl rfl) ?_)
  refine g_i2l X (v := (cnM N S v).toInt64) dL_count_7 rfl ?_
  obtain ⟨U1, eU1⟩ : ∃ z : Nat → Int64, z = vp_updL U 0 ((cnM N S v).toInt64) := ⟨_, rfl⟩
  refine g_last X (ws' := wX x y cI cJ cZ C N S Qk Z ++ [(u, .inl (cJ, 1, .inr (.inl U1)))]) 36 rfl (0) rfl (by omega) (Nat.le_of_ble_eq_true rfl) dL_count_8 (by rw [eU1]; first | done | (rfl)) ?_
  refine g_goto X (tgt := 15) dL_count_9 (by decide) ?_
  refine g_iconst X (v := nI 0) dL_count_15 (by decide +kernel) ?_
  refine g_iret X hr hlk hQ dL_count_16 ?_
  show g_eq _ _ _ _
  try rw [eU1]
  exact ⟨rfl, rfl⟩
abbrev rm_L_countX : Room := { frames := 9, cells := 1, slots := 6, locals := 145 }
set_option maxRecDepth 100000 in
set_option maxHeartbeats 4000000 in
theorem m_L_countX (l : Launch) (hl0 : l.stackTraces = false) (D : va_G) (cI cJ cZ : ClassId) (B0 : Nat) (x : Nat → Nat) (y : Nat) (C : Cf) (N : Nat → Nat) (S : St) (Qk : Nat → Int64) (Z : St) (u : Nat) (U : Nat → Int64) (v : Int32)  (hc1 : ¬ cR1 v (nI 0) (nI 4) = 0) (hB : g_Bw B0 (wX x y cI cJ cZ C N S Qk Z ++ [(u, .inl (cJ, 1, .inr (.inl U)))])) : g_CtW l D cI cJ cZ B0 yL_count cL_count 4 (some .int) [(0, 9, 12, 15)] rm_L_countX 1 6 [.ref (x 0), .int v, .ref u] (wX x y cI cJ cZ C N S Qk Z ++ [(u, .inl (cJ, 1, .inr (.inl U)))]) (g_eq (some (.int (nI (cR1 v (nI 0) (nI 4))))) (wX x y cI cJ cZ C N S Qk Z ++ [(u, .inl (cJ, 1, .inr (.inl U)))])) := by
  refine g_bodyW RL [(0, .ref (x 0)), (1, .int v), (2, .ref u)] kH_L rfl (Nat.le_of_ble_eq_true rfl) rfl hB ?_
  intro p e s m args below meth c A X Y hT hr hlk hmn Q hQ
  refine g_aload_n X 2 dL_count_0 rfl rfl ?_
  refine g_iconst X (v := nI 0) dL_count_1 (by decide +kernel) ?_
  refine g_aload_n X 0 dL_count_2 rfl rfl ?_
  refine g_iload_n X 1 dL_count_3 rfl rfl ?_
  have hle : cR1 v (nI 0) (nI 4) ≤ 1 := by unfold cR1; (repeat' split) <;> omega
  rcases (show cR1 v (nI 0) (nI 4) = 1 by omega) with hk
  · --
    have hE : eC (cR1 v (nI 0) (nI 4)) = xA := by rw [hk]; rfl
    have hm := m_X6_countX l hl0 D cI cJ cZ B0 x y C N S Qk Z v hc1 (fun k q h => hB k q ((List.getElem?_append_left (List.getElem?_eq_some_iff.mp h).1).trans h))
    rw [hE] at hm
    refine g_callVC X Y (As := [.int v]) (rest := [.int (nI 0), .ref u]) hm kM_L_69 kI_yX6_count kS_yX6_count kZ_RX6 kC_yX6_count hV_X6_count rfl rfl rfl 0 rfl (ci := 6) rfl ⟨Nat.le_of_ble_eq_true rfl, Nat.le_of_ble_eq_true rfl⟩ ⟨Nat.le_of_ble_eq_true rfl, Nat.le_of_ble_eq_true rfl⟩ (Nat.le_of_ble_eq_true rfl) dL_count_4 rfl (em_I 0 36 36 0) (em_C (by decide) (Nat.le_of_ble_eq_true rfl) rfl) (em_nd (by decide)) (em3 0 36 36 0 (by decide) (Nat.le_of_ble_eq_true rfl) rfl rfl rfl) [] ⟨0, 9, 12, 15⟩ [] hT (by decide) (fun z hz => by simp at hz) (by decide) (by decide) kQ_L_15 (fun q9 => ?_)
    refine g_astore_n X [(3, .ref q9), (0, .ref (x 0)), (1, .int v), (2, .ref u)] dL_count_12 rfl (Nat.le_of_ble_eq_true rfl) rfl ?_
    refine g_iconst X (v := nI 1) dL_count_13 (by decide +kernel) ?_
    refine g_iret X hr hlk hQ dL_count_14 ?_
    show g_eq _ _ _ _
    refine ⟨?_, rfl⟩
    rw [hk]
theorem hV_L_sum : yL_sum.cls = RL ∧ yL_sum.cls ≠ "java/lang/invoke/MethodHandle" ∧ yL_sum.cls ≠ "java/lang/invoke/VarHandle" ∧ (parseMethodDescriptor yL_sum.desc).map (fun d => d.parameters.length) = some 3 := by decide +kernel
abbrev rm_L_sum : Room := { frames := 3, cells := 0, slots := 0, locals := 63 }
set_option maxRecDepth 100000 in
set_option maxHeartbeats 4000000 in
theorem m_L_sum (l : Launch) (hl0 : l.stackTraces = false) (D : va_G) (cI cJ cZ : ClassId) (B0 : Nat) (x : Nat → Nat) (y : Nat) (C : Cf) (N : Nat → Nat) (S : St) (Qk : Nat → Int64) (Z : St) (u : Nat) (U : Nat → Int64) (v : Int32)  (hc0 : cR1 v (nI 0) (nI 7) = 0) (hB : g_Bw B0 (wX x y cI cJ cZ C N S Qk Z ++ [(u, .inl (cJ, 1, .inr (.inl U)))])) : g_CtW l D cI cJ cZ B0 yL_sum cL_sum 4 (some .int) [(0, 8, 11, 15)] rm_L_sum 0 0 [.ref (x 0), .int v, .ref u] (wX x y cI cJ cZ C N S Qk Z ++ [(u, .inl (cJ, 1, .inr (.inl U)))]) (g_eq (some (.int (nI 0))) (wX x y cI cJ cZ C N S Qk Z ++ [(u, .inl (cJ, 1, .inr (.inl (vp_updL U 0 ((smM S v))))))])) := by
  refine g_bodyW RL [(0, .ref (x 0)), (1, .int v), (2, .ref u)] kH_L rfl (Nat.le_of_ble_eq_true rfl) rfl hB ?_
  intro p e s m args below meth c A X Y hT hr hlk hmn Q hQ
  refine g_aload_n X 2 dL_sum_0 rfl rfl ?_
  refine g_iconst X (v := nI 0) dL_sum_1 (by decide +kernel) ?_
  refine g_aload_n X 0 dL_sum_2 rfl rfl ?_
  refine g_iload_n X 1 dL_sum_3 rfl rfl ?_
  refine g_callV X (As := [.int v]) (rest := [.int (nI 0), .ref u]) (m_X6_sum l D cI cJ cZ x y C N S Qk Z v hc0) kM_L_72 kI_yX6_sum kS_yX6_sum kZ_RX6 kC_yX6_sum hV_X6_sum rfl rfl rfl 0 rfl (ci := 6) rfl ⟨Nat.le_of_ble_eq_true rfl, Nat.le_of_ble_eq_true rfl⟩ ⟨Nat.le_of_ble_eq_true rfl, Nat.le_of_ble_eq_true rfl⟩ (Nat.le_of_ble_eq_true rfl) dL_sum_4 rfl (em_I 0 36 36 0) (em_C (by decide) (Nat.le_of_ble_eq_true rfl) rfl) (em_nd (by decide)) (g_kk1 (w2 := wX x y cI cJ cZ C N S Qk Z ++ [(u, .inl (cJ, 1, .inr (.inl U)))]) (em3 0 36 36 0 (by decide) (Nat.le_of_ble_eq_true rfl) rfl rfl rfl) ?_)
  obtain ⟨U1, eU1⟩ : ∃ z : Nat → Int64, z = vp_updL U 0 (smM S v) := ⟨_, rfl⟩
  refine g_last X (ws' := wX x y cI cJ cZ C N S Qk Z ++ [(u, .inl (cJ, 1, .inr (.inl U1)))]) 36 rfl (0) rfl (by omega) (Nat.le_of_ble_eq_true rfl) dL_sum_7 (by rw [eU1]; first | done | (rfl)) ?_
  refine g_goto X (tgt := 14) dL_sum_8 (by decide) ?_
  refine g_iconst X (v := nI 0) dL_sum_14 (by decide +kernel) ?_
  refine g_iret X hr hlk hQ dL_sum_15 ?_
  show g_eq _ _ _ _
  try rw [eU1]
  exact ⟨rfl, rfl⟩
abbrev rm_L_sumX : Room := { frames := 9, cells := 1, slots := 6, locals := 145 }
set_option maxRecDepth 100000 in
set_option maxHeartbeats 4000000 in
theorem m_L_sumX (l : Launch) (hl0 : l.stackTraces = false) (D : va_G) (cI cJ cZ : ClassId) (B0 : Nat) (x : Nat → Nat) (y : Nat) (C : Cf) (N : Nat → Nat) (S : St) (Qk : Nat → Int64) (Z : St) (u : Nat) (U : Nat → Int64) (v : Int32)  (hc1 : ¬ cR1 v (nI 0) (nI 7) = 0) (hB : g_Bw B0 (wX x y cI cJ cZ C N S Qk Z ++ [(u, .inl (cJ, 1, .inr (.inl U)))])) : g_CtW l D cI cJ cZ B0 yL_sum cL_sum 4 (some .int) [(0, 8, 11, 15)] rm_L_sumX 1 6 [.ref (x 0), .int v, .ref u] (wX x y cI cJ cZ C N S Qk Z ++ [(u, .inl (cJ, 1, .inr (.inl U)))]) (g_eq (some (.int (nI (cR1 v (nI 0) (nI 7))))) (wX x y cI cJ cZ C N S Qk Z ++ [(u, .inl (cJ, 1, .inr (.inl U)))])) := by
  refine g_bodyW RL [(0, .ref (x 0)), (1, .int v), (2, .ref u)] kH_L rfl (Nat.le_of_ble_eq_true rfl) rfl hB ?_
  intro p e s m args below meth c A X Y hT hr hlk hmn Q hQ
  refine g_aload_n X 2 dL_sum_0 rfl rfl ?_
  refine g_iconst X (v := nI 0) dL_sum_1 (by decide +kernel) ?_
  refine g_aload_n X 0 dL_sum_2 rfl rfl ?_
  refine g_iload_n X 1 dL_sum_3 rfl rfl ?_
  have hle : cR1 v (nI 0) (nI 7) ≤ 1 := by unfold cR1; (repeat' split) <;> omega
  rcases (show cR1 v (nI 0) (nI 7) = 1 by omega) with hk
  · --
    have hE : eC (cR1 v (nI 0) (nI 7)) = xA := by rw [hk]; rfl
    have hm := m_X6_sumX l hl0 D cI cJ cZ B0 x y C N S Qk Z v hc1 (fun k q h => hB k q ((List.getElem?_append_left (List.getElem?_eq_some_iff.mp h).1).trans h))
    rw [hE] at hm
    refine g_callVC X Y (As := [.int v]) (rest := [.int (nI 0), .ref u]) hm kM_L_72 kI_yX6_sum kS_yX6_sum kZ_RX6 kC_yX6_sum hV_X6_sum rfl rfl rfl 0 rfl (ci := 6) rfl ⟨Nat.le_of_ble_eq_true rfl, Nat.le_of_ble_eq_true rfl⟩ ⟨Nat.le_of_ble_eq_true rfl, Nat.le_of_ble_eq_true rfl⟩ (Nat.le_of_ble_eq_true rfl) dL_sum_4 rfl (em_I 0 36 36 0) (em_C (by decide) (Nat.le_of_ble_eq_true rfl) rfl) (em_nd (by decide)) (em3 0 36 36 0 (by decide) (Nat.le_of_ble_eq_true rfl) rfl rfl rfl) [] ⟨0, 8, 11, 15⟩ [] hT (by decide) (fun z hz => by simp at hz) (by decide) (by decide) kQ_L_15 (fun q9 => ?_)
    refine g_astore_n X [(3, .ref q9), (0, .ref (x 0)), (1, .int v), (2, .ref u)] dL_sum_11 rfl (Nat.le_of_ble_eq_true rfl) rfl ?_
    refine g_iconst X (v := nI 1) dL_sum_12 (by decide +kernel) ?_
    refine g_iret X hr hlk hQ dL_sum_13 ?_
    show g_eq _ _ _ _
    refine ⟨?_, rfl⟩
    rw [hk]
