theorem hV_L_would : yL_would.cls = RL ∧ yL_would.cls ≠ "java/lang/invoke/MethodHandle" ∧ yL_would.cls ≠ "java/lang/invoke/VarHandle" ∧ (parseMethodDescriptor yL_would.desc).map (fun d => d.parameters.length) = some 5 := by decide +kernel
abbrev rm_L_would : Room := { frames := 7, cells := 0, slots := 0, locals := 162 }
set_option maxRecDepth 100000 in
set_option maxHeartbeats 4000000 in
theorem m_L_would (l : Launch) (hl0 : l.stackTraces = false) (D : va_G) (cI cJ cZ : ClassId) (B0 : Nat) (x : Nat → Nat) (C : Cf) (N : Nat → Nat) (S : St) (Qk : Nat → Int64) (Z : St) (jC : Cf) (jN : Nat → Nat) (jS : St) (jQ : Nat → Int64) (jZ : St) (u : Nat) (U : Nat → Int64) (v q r : Int32) (hC : Cok C N) (hR : Rok C) (hX : Xok C) (hI : ∀ i, i ≤ 24 → MonOk C N (mnS C N S i)) (h3 : ∀ w, w < N 0 → C 3 w = 0 ∨ C 3 w = 1) (hZ : ZB jC jN jS) (hY : ZB C N S) (hn0 : jN 0 ≤ N 0) (hn1 : jN 1 ≤ N 1) (hn2 : jN 2 ≤ N 2) (hc0 : cD3 v q r = 0) (hB : g_Bw B0 (wX2 x cI cJ cZ C N S Qk Z jC jN jS jQ jZ ++ [(u, .inl (cJ, 1, .inr (.inl U)))])) : g_CtW l D cI cJ cZ B0 yL_would cL_would 6 (some .int) [(0, 11, 14, 13), (0, 11, 18, 15)] rm_L_would 0 0 [.ref (x 0), .int v, .int q, .int r, .ref u] (wX2 x cI cJ cZ C N S Qk Z jC jN jS jQ jZ ++ [(u, .inl (cJ, 1, .inr (.inl U)))]) (g_eq (some (.int (nI 0))) (wX2 x cI cJ cZ C N S Qk Z C N (mnS C N S (nN v)) (mnQ C N S (cpQ Qk jQ (if 60 < qN S then 60 else qN S)) (nN v)) (mnZ C N S jZ (nN v)) ++ [(u, .inl (cJ, 1, .inr (.inl (vp_updL U 0 ((tellG (mnS C N S (nN v)) (nN q) (nN r)))))))])) := by
  refine g_bodyW RL [(0, .ref (x 0)), (1, .int v), (2, .int q), (3, .int r), (4, .ref u)] kH_L rfl (Nat.le_of_ble_eq_true rfl) rfl hB ?_
  intro p e s m args below meth c A X Y hT hr hlk hmn Q hQ
  refine g_aload X 4 dL_would_0 rfl ?_
  refine g_iconst X (v := nI 0) dL_would_2 (by decide +kernel) ?_
  refine g_aload_n X 0 dL_would_3 rfl rfl ?_
  refine g_iload_n X 1 dL_would_4 rfl rfl ?_
  refine g_iload_n X 2 dL_would_5 rfl rfl ?_
  refine g_iload_n X 3 dL_would_6 rfl rfl ?_
  obtain ⟨lC1, elC1⟩ : ∃ z : Cf, z = C := ⟨_, rfl⟩
  obtain ⟨lN2, elN2⟩ : ∃ z : Nat → Nat, z = N := ⟨_, rfl⟩
  obtain ⟨lS3, elS3⟩ : ∃ z : St, z = (mnS C N S (nN v)) := ⟨_, rfl⟩
  obtain ⟨lQk4, elQk4⟩ : ∃ z : Nat → Int64, z = (mnQ C N S (cpQ Qk jQ (if 60 < qN S then 60 else qN S)) (nN v)) := ⟨_, rfl⟩
  obtain ⟨lX5, elX5⟩ : ∃ z : St, z = (mnZ C N S jZ (nN v)) := ⟨_, rfl⟩
  refine g_callV X (As := [.int v, .int q, .int r]) (rest := [.int (nI 0), .ref u]) (m_X6_would l D cI cJ cZ x C N S Qk Z jC jN jS jQ jZ v q r hC hR hX hI h3 hZ hY hn0 hn1 hn2 hc0) kM_L_56 kI_yX6_would kS_yX6_would kZ_RX6 kC_yX6_would hV_X6_would rfl rfl rfl 0 rfl (ci := 6) rfl ⟨Nat.le_of_ble_eq_true rfl, Nat.le_of_ble_eq_true rfl⟩ ⟨Nat.le_of_ble_eq_true rfl, Nat.le_of_ble_eq_true rfl⟩ (Nat.le_of_ble_eq_true rfl) dL_would_7 rfl (em_I 0 71 71 0) (em_C (by decide) (Nat.le_of_ble_eq_true rfl) rfl) (em_nd (by decide)) (g_kk1 (w2 := wX2 x cI cJ cZ C N S Qk Z lC1 lN2 lS3 lQk4 lX5 ++ [(u, .inl (cJ, 1, .inr (.inl U)))]) (by rw [elX5]; rw [elQk4]; rw [elS3]; rw [elN2]; rw [elC1]; exact (em3 0 71 71 0 (by decide) (Nat.le_of_ble_eq_true rfl) rfl rfl rfl)) ?_)
  obtain ⟨U6, eU6⟩ : ∃ z : Nat → Int64, z = vp_updL U 0 (tellG (mnS C N S (nN v)) (nN q) (nN r)) := ⟨_, rfl⟩
  refine g_last X (ws' := wX2 x cI cJ cZ C N S Qk Z lC1 lN2 lS3 lQk4 lX5 ++ [(u, .inl (cJ, 1, .inr (.inl U6)))]) 71 rfl (0) rfl (by omega) (Nat.le_of_ble_eq_true rfl) dL_would_10 (by rw [eU6]; first | done | (rfl)) ?_
  refine g_goto X (tgt := 22) dL_would_11 (by decide) ?_
  refine g_iconst X (v := nI 0) dL_would_22 (by decide +kernel) ?_
  refine g_iret X hr hlk hQ dL_would_23 ?_
  show g_eq _ _ _ _
  try rw [eU6]
  try rw [elX5]
  try rw [elQk4]
  try rw [elS3]
  try rw [elN2]
  try rw [elC1]
  exact ⟨rfl, rfl⟩
abbrev rm_L_wouldX : Room := { frames := 9, cells := 1, slots := 6, locals := 148 }
set_option maxRecDepth 100000 in
set_option maxHeartbeats 4000000 in
theorem m_L_wouldX (l : Launch) (hl0 : l.stackTraces = false) (D : va_G) (cI cJ cZ : ClassId) (B0 : Nat) (x : Nat → Nat) (C : Cf) (N : Nat → Nat) (S : St) (Qk : Nat → Int64) (Z : St) (jC : Cf) (jN : Nat → Nat) (jS : St) (jQ : Nat → Int64) (jZ : St) (u : Nat) (U : Nat → Int64) (v q r : Int32) (hC : Cok C N) (hR : Rok C) (hX : Xok C) (hI : ∀ i, i ≤ 24 → MonOk C N (mnS C N S i)) (h3 : ∀ w, w < N 0 → C 3 w = 0 ∨ C 3 w = 1) (hZ : ZB jC jN jS) (hY : ZB C N S) (hn0 : jN 0 ≤ N 0) (hn1 : jN 1 ≤ N 1) (hn2 : jN 2 ≤ N 2) (hc1 : ¬ cD3 v q r = 0) (hB : g_Bw B0 (wX2 x cI cJ cZ C N S Qk Z jC jN jS jQ jZ ++ [(u, .inl (cJ, 1, .inr (.inl U)))])) : g_CtW l D cI cJ cZ B0 yL_would cL_would 6 (some .int) [(0, 11, 14, 13), (0, 11, 18, 15)] rm_L_wouldX 1 6 [.ref (x 0), .int v, .int q, .int r, .ref u] (wX2 x cI cJ cZ C N S Qk Z jC jN jS jQ jZ ++ [(u, .inl (cJ, 1, .inr (.inl U)))]) (g_eq (some (.int (nI (cD3 v q r)))) (wX2 x cI cJ cZ C N S Qk Z jC jN jS jQ jZ ++ [(u, .inl (cJ, 1, .inr (.inl U)))])) := by
  refine g_bodyW RL [(0, .ref (x 0)), (1, .int v), (2, .int q), (3, .int r), (4, .ref u)] kH_L rfl (Nat.le_of_ble_eq_true rfl) rfl hB ?_
  intro p e s m args below meth c A X Y hT hr hlk hmn Q hQ
  refine g_aload X 4 dL_would_0 rfl ?_
  refine g_iconst X (v := nI 0) dL_would_2 (by decide +kernel) ?_
  refine g_aload_n X 0 dL_would_3 rfl rfl ?_
  refine g_iload_n X 1 dL_would_4 rfl rfl ?_
  refine g_iload_n X 2 dL_would_5 rfl rfl ?_
  refine g_iload_n X 3 dL_would_6 rfl rfl ?_
  have hle : cD3 v q r ≤ 2 := by unfold cD3; (repeat' split) <;> omega
  rcases (show cD3 v q r = 1 ∨ cD3 v q r = 2 by omega) with hk | hk
  · --
    have hE : eA (cD3 v q r) = xI := by rw [hk]; rfl
    have hm := m_X6_wouldX l hl0 D cI cJ cZ B0 x C N S Qk Z jC jN jS jQ jZ v q r hC hR hX hI h3 hZ hY hn0 hn1 hn2 hc1 (fun k q h => hB k q ((List.getElem?_append_left (List.getElem?_eq_some_iff.mp h).1).trans h))
    rw [hE] at hm
    refine g_callVC X Y (As := [.int v, .int q, .int r]) (rest := [.int (nI 0), .ref u]) hm kM_L_56 kI_yX6_would kS_yX6_would kZ_RX6 kC_yX6_would hV_X6_would rfl rfl rfl 0 rfl (ci := 6) rfl ⟨Nat.le_of_ble_eq_true rfl, Nat.le_of_ble_eq_true rfl⟩ ⟨Nat.le_of_ble_eq_true rfl, Nat.le_of_ble_eq_true rfl⟩ (Nat.le_of_ble_eq_true rfl) dL_would_7 rfl (em_I 0 71 71 0) (em_C (by decide) (Nat.le_of_ble_eq_true rfl) rfl) (em_nd (by decide)) (em3 0 71 71 0 (by decide) (Nat.le_of_ble_eq_true rfl) rfl rfl rfl) [] ⟨0, 11, 14, 13⟩ [⟨0, 11, 18, 15⟩] hT (by decide) (fun z hz => by simp at hz) (by decide) (by decide) kQ_L_13 (fun q9 => ?_)
    refine g_astore X [(5, .ref q9), (0, .ref (x 0)), (1, .int v), (2, .int q), (3, .int r), (4, .ref u)] dL_would_14 (Nat.le_of_ble_eq_true rfl) rfl ?_
    refine g_iconst X (v := nI 1) dL_would_16 (by decide +kernel) ?_
    refine g_iret X hr hlk hQ dL_would_17 ?_
    show g_eq _ _ _ _
    refine ⟨?_, rfl⟩
    rw [hk]
  · --
    have hE : eA (cD3 v q r) = xA := by rw [hk]; rfl
    have hm := m_X6_wouldX l hl0 D cI cJ cZ B0 x C N S Qk Z jC jN jS jQ jZ v q r hC hR hX hI h3 hZ hY hn0 hn1 hn2 hc1 (fun k q h => hB k q ((List.getElem?_append_left (List.getElem?_eq_some_iff.mp h).1).trans h))
    rw [hE] at hm
    refine g_callVC X Y (As := [.int v, .int q, .int r]) (rest := [.int (nI 0), .ref u]) hm kM_L_56 kI_yX6_would kS_yX6_would kZ_RX6 kC_yX6_would hV_X6_would rfl rfl rfl 0 rfl (ci := 6) rfl ⟨Nat.le_of_ble_eq_true rfl, Nat.le_of_ble_eq_true rfl⟩ ⟨Nat.le_of_ble_eq_true rfl, Nat.le_of_ble_eq_true rfl⟩ (Nat.le_of_ble_eq_true rfl) dL_would_7 rfl (em_I 0 71 71 0) (em_C (by decide) (Nat.le_of_ble_eq_true rfl) rfl) (em_nd (by decide)) (em3 0 71 71 0 (by decide) (Nat.le_of_ble_eq_true rfl) rfl rfl rfl) [⟨0, 11, 14, 13⟩] ⟨0, 11, 18, 15⟩ [] hT (by decide) (fun z hz => by simp only [List.mem_cons, List.not_mem_nil, or_false] at hz; subst hz; exact ⟨by decide, xI, by decide, by decide, kQ_L_13⟩) (by decide) (by decide) kQ_L_15 (fun q9 => ?_)
    refine g_astore X [(5, .ref q9), (0, .ref (x 0)), (1, .int v), (2, .int q), (3, .int r), (4, .ref u)] dL_would_18 (Nat.le_of_ble_eq_true rfl) rfl ?_
    refine g_iconst X (v := nI 2) dL_would_20 (by decide +kernel) ?_
    refine g_iret X hr hlk hQ dL_would_21 ?_
    show g_eq _ _ _ _
    refine ⟨?_, rfl⟩
    rw [hk]
