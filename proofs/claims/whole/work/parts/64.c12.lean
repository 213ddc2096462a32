set_option maxRecDepth 100000 in
set_option maxHeartbeats 4000000 in
theorem n_law_would (l : Launch) (hl0 : l.stackTraces = false) (D : va_G) (cI cJ cZ : ClassId) (B0 : Nat) (x h : Nat → Nat) (u b L j : Nat) (xs : Nat → Int32) {p : Program} {e : Env} {s : State} {m : MethodId} {args : Array Value} {below : List Frame} {meth : Method} {c : Code} {A : Nat → Prop} (X : g_Cx p s m args c D A 8 cL_law RL cI cJ cZ) (Yx : g_Xx B0 A s) (hXs : va_X b L xs s s.heap) (hbl : b < s.heap.size) (hbA : ¬ A b) (hx : ∀ i, i < 71 → B0 ≤ x i) (hu : B0 ≤ u) (hj : 4 * j + 4 ≤ L) (hL : L ≤ 2048) {Q : State → Prop} (kc ks : Nat) (hkc : kc + 1 ≤ 1116) (hks : ks + 6 ≤ 10012) (C : Cf) (N : Nat → Nat) (S : St) (Qk : Nat → Int64) (Z : St) (jC : Cf) (jN : Nat → Nat) (jS : St) (jQ : Nat → Int64) (jZ : St) (U : Nat → Int64) (th : Int32) (K P : Nat → Int64) (Y : St) (mo : Nat) (hLI : LI C N S jC jN jS mo) (v : Int32) (q : Int32) (r : Int32) (h9v : xs (4 * j + 1) = v) (h9q : xs (4 * j + 2) = q) (h9r : xs (4 * j + 3) = r) (hc0 : cD3 v q r = 0) (kk : ∀ (C : Cf) (N : Nat → Nat) (S : St) (Qk : Nat → Int64) (Z : St) (jC : Cf) (jN : Nat → Nat) (jS : St) (jQ : Nat → Int64) (jZ : St) (U : Nat → Int64) (th : Int32) (K P : Nat → Int64) (Y9 : St) (mo : Nat), LI C N S jC jN jS mo → g_G p l e room_1 s m args below meth c D A 8 (kc + 1) (ks + 6) Q (wX2 x cI cJ cZ C N S Qk Z jC jN jS jQ jZ ++ ([(u, .inl (cJ, 1, .inr (.inl U)))] ++ wM h cI cJ cZ th C N S Qk K P Y9)) [(0, .ref b), (1, .ref (x 0)), (2, .ref (h 0)), (3, .ref u), (4, .int (nI (4 * j)))] 1363 []) : g_G p l e room_1 s m args below meth c D A 8 kc ks Q (wX2 x cI cJ cZ C N S Qk Z jC jN jS jQ jZ ++ ([(u, .inl (cJ, 1, .inr (.inl U)))] ++ wM h cI cJ cZ th C N S Qk K P Y)) [(0, .ref b), (1, .ref (x 0)), (2, .ref (h 0)), (3, .ref u), (4, .int (nI (4 * j)))] 958 [] := by
  have hIv := hLI.1
  have hm6 := hLI.2.1
  obtain ⟨hC, hR, hX, h3, hY, hWk9, hE9, h13, hq9, hB9, h10⟩ := hLI.1
  have hM : 0 ≤ (S 13 0).toInt ∧ (S 13 0).toInt ≤ 1000 := hE9.2.2
  have hW : Wok S := hWk9.ok (by omega)
  have hq : S 14 0 = lN (qN S) ∧ qN S ≤ 900000 := ⟨hq9.1, by omega⟩
  have hI := hIv.mons (by omega)
  have hZ := hLI.2.2.1
  have hn0 := hLI.2.2.2.1
  have hn1 := hLI.2.2.2.2.1
  have hn2 := hLI.2.2.2.2.2.1
  have hvn9 : nN v < 25 := (inB_k (by decide) (cD3_0 hc0).2.1).1
  refine g_aload_n X 1 dL_law_958 rfl rfl ?_
  refine g_aload_n X 0 dL_law_959 rfl rfl ?_
  refine g_iload X 4 dL_law_960 rfl ?_
  refine g_iconst X (v := nI 1) dL_law_962 (by decide +kernel) ?_
  refine g_iadd X (v := nI (4 * j + 1)) dL_law_963 ((nI_add _ _).trans (congrArg nI (by omega))) ?_
  refine g_sld X hXs hbl hbA (4 * j + 1) rfl (by omega) (by omega) h9v dL_law_964 ?_
  refine g_aload_n X 0 dL_law_965 rfl rfl ?_
  refine g_iload X 4 dL_law_966 rfl ?_
  refine g_iconst X (v := nI 2) dL_law_968 (by decide +kernel) ?_
  refine g_iadd X (v := nI (4 * j + 2)) dL_law_969 ((nI_add _ _).trans (congrArg nI (by omega))) ?_
  refine g_sld X hXs hbl hbA (4 * j + 2) rfl (by omega) (by omega) h9q dL_law_970 ?_
  refine g_aload_n X 0 dL_law_971 rfl rfl ?_
  refine g_iload X 4 dL_law_972 rfl ?_
  refine g_iconst X (v := nI 3) dL_law_974 (by decide +kernel) ?_
  refine g_iadd X (v := nI (4 * j + 3)) dL_law_975 ((nI_add _ _).trans (congrArg nI (by omega))) ?_
  refine g_sld X hXs hbl hbA (4 * j + 3) rfl (by omega) (by omega) h9r dL_law_976 ?_
  refine g_aload_n X 3 dL_law_977 rfl rfl ?_
  obtain ⟨lC1, elC1⟩ : ∃ z : Cf, z = C := ⟨_, rfl⟩
  obtain ⟨lN2, elN2⟩ : ∃ z : Nat → Nat, z = N := ⟨_, rfl⟩
  obtain ⟨lS3, elS3⟩ : ∃ z : St, z = (mnS C N S (nN v)) := ⟨_, rfl⟩
  obtain ⟨lQk4, elQk4⟩ : ∃ z : Nat → Int64, z = (mnQ C N S (cpQ Qk jQ (if 60 < qN S then 60 else qN S)) (nN v)) := ⟨_, rfl⟩
  obtain ⟨lX5, elX5⟩ : ∃ z : St, z = (mnZ C N S jZ (nN v)) := ⟨_, rfl⟩
  obtain ⟨U6, eU6⟩ : ∃ z : Nat → Int64, z = vp_updL U 0 ((tellG (mnS C N S (nN v)) (nN q) (nN r))) := ⟨_, rfl⟩
  refine g_callSW X Yx (As := [.ref (x 0), .int v, .int q, .int r, .ref u]) (rest := []) (m_L_would l hl0 D cI cJ cZ B0 x C N S Qk Z jC jN jS jQ jZ u U v q r hC hR hX hI h3 hZ hY hn0 hn1 hn2 hc0 (bw_X2 hx hu)) kM_L_126 kT_yL_would kZ_RL kW_yL_would hV_L_would.2 rfl rfl rfl ⟨Nat.le_of_ble_eq_true rfl, Nat.le_of_ble_eq_true rfl⟩ (show _ ≤ 1116 ∧ _ ≤ 10012 by omega) (Nat.le_of_ble_eq_true rfl) dL_law_978 rfl (em_I 0 72 72 0) (em_C (by decide) (Nat.le_of_ble_eq_true rfl) rfl) (em_nd (by decide)) (g_kk1 (w2 := wX2 x cI cJ cZ C N S Qk Z lC1 lN2 lS3 lQk4 lX5 ++ ([(u, .inl (cJ, 1, .inr (.inl U6)))] ++ wM h cI cJ cZ th C N S Qk K P Y)) (by rw [eU6]; rw [elX5]; rw [elQk4]; rw [elS3]; rw [elN2]; rw [elC1]; exact (em3 0 72 72 0 (by decide) (Nat.le_of_ble_eq_true rfl) rfl rfl rfl)) ?_)
  refine g_istore X [(5, .int (nI 0)), (0, .ref b), (1, .ref (x 0)), (2, .ref (h 0)), (3, .ref u), (4, .int (nI (4 * j)))] dL_law_981 (Nat.le_of_ble_eq_true rfl) rfl ?_
  refine g_aload_n X 3 dL_law_983 rfl rfl ?_
  refine g_aload_n X 1 dL_law_984 rfl rfl ?_
  refine g_iload X 5 dL_law_985 rfl ?_
  refine g_iconst X (v := nI 1) dL_law_987 (by decide +kernel) ?_
  refine g_iadd X (v := nI (4 * j + 1)) dL_law_988 ((nI_add _ _).trans (congrArg nI (by omega))) ?_
  refine g_sld X hXs hbl hbA (4 * j + 1) rfl (by omega) (by omega) h9v dL_law_989 ?_
  refine g_aload_n X 1 dL_law_990 rfl rfl ?_
  refine g_iload X 5 dL_law_991 rfl ?_
  refine g_iconst X (v := nI 2) dL_law_993 (by decide +kernel) ?_
  refine g_iadd X (v := nI (4 * j + 2)) dL_law_994 ((nI_add _ _).trans (congrArg nI (by omega))) ?_
  refine g_sld X hXs hbl hbA (4 * j + 2) rfl (by omega) (by omega) h9q dL_law_995 ?_
  refine g_aload_n X 1 dL_law_996 rfl rfl ?_
  refine g_iload X 5 dL_law_997 rfl ?_
  refine g_iconst X (v := nI 3) dL_law_999 (by decide +kernel) ?_
  refine g_iadd X (v := nI (4 * j + 3)) dL_law_1000 ((nI_add _ _).trans (congrArg nI (by omega))) ?_
  refine g_sld X hXs hbl hbA (4 * j + 3) rfl (by omega) (by omega) h9r dL_law_1001 ?_
  have hm := m_X7_would l D cI cJ cZ h th C N S Qk K P Y v q r hC hR hX hI
  repeat rw [if_pos hc0] at hm
  rw [hc0] at hm
  rw [te_G _ (inB_k (by decide) (cD3_0 hc0).2.2).1] at hm
  obtain ⟨th7, eth7⟩ : ∃ z : Int32, z = nI 0 := ⟨_, rfl⟩
  obtain ⟨K8, eK8⟩ : ∃ z : Nat → Int64, z = (cpy (fl S Qk) K 336) := ⟨_, rfl⟩
  obtain ⟨P9, eP9⟩ : ∃ z : Nat → Int64, z = (mnP C N S P (nN v)) := ⟨_, rfl⟩
  obtain ⟨Y10, eY10⟩ : ∃ z : St, z = (mnY C N S Y (nN v)) := ⟨_, rfl⟩
  refine g_callV X (As := [.int v, .int q, .int r]) (rest := []) hm kM_L_128 kI_yX7_would kS_yX7_would kZ_RX7 kC_yX7_would hV_X7_would rfl rfl rfl 0 rfl (ci := 7) rfl ⟨Nat.le_of_ble_eq_true rfl, Nat.le_of_ble_eq_true rfl⟩ (show _ ≤ 1116 ∧ _ ≤ 10012 by omega) (Nat.le_of_ble_eq_true rfl) dL_law_1002 rfl (em_I 72 17 89 0) (em_C (by decide) (Nat.le_of_ble_eq_true rfl) rfl) (em_nd (by decide)) (g_kk1 (w2 := wX2 x cI cJ cZ C N S Qk Z lC1 lN2 lS3 lQk4 lX5 ++ ([(u, .inl (cJ, 1, .inr (.inl U6)))] ++ wM h cI cJ cZ th7 C N S Qk K8 P9 Y10)) (by rw [eY10]; rw [eP9]; rw [eK8]; rw [eth7]; exact (em3 72 17 89 0 (by decide) (Nat.le_of_ble_eq_true rfl) rfl rfl rfl)) ?_)
  refine g_lstore X [(6, .long (tellG (mnS C N S (nN v)) (nN q) (nN r))), (5, .int (nI 0)), (0, .ref b), (1, .ref (x 0)), (2, .ref (h 0)), (3, .ref u), (4, .int (nI (4 * j)))] dL_law_1005 (Nat.le_of_ble_eq_true rfl) rfl ?_
  refine g_aload_n X 4 dL_law_1007 rfl rfl ?_
  refine g_callV X (As := []) (rest := []) (m_X7_thrown l D cI cJ cZ h th7 C N S Qk K8 P9 Y10) kM_L_86 kI_yX7_thrown kS_yX7_thrown kZ_RX7 kC_yX7_thrown hV_X7_thrown rfl rfl rfl 0 rfl (ci := 7) rfl ⟨Nat.le_of_ble_eq_true rfl, Nat.le_of_ble_eq_true rfl⟩ (show _ ≤ 1116 ∧ _ ≤ 10012 by omega) (Nat.le_of_ble_eq_true rfl) dL_law_1008 rfl (em_I 72 17 89 0) (em_C (by decide) (Nat.le_of_ble_eq_true rfl) rfl) (em_nd (by decide)) (g_kk1 (w2 := wX2 x cI cJ cZ C N S Qk Z lC1 lN2 lS3 lQk4 lX5 ++ ([(u, .inl (cJ, 1, .inr (.inl U6)))] ++ wM h cI cJ cZ th7 C N S Qk K8 P9 Y10)) (em3 72 17 89 0 (by decide) (Nat.le_of_ble_eq_true rfl) rfl rfl rfl) ?_)
  refine g_iload X 1 dL_law_1011 rfl ?_
  refine g_icmp_eq X (tgt := 1018) dL_law_1013 (by decide) (fun h11 => ?_) (fun h11 => absurd eth7 h11)
  refine g_iload X 1 dL_law_1018 rfl ?_
  refine g_if_ne X (tgt := 1034) dL_law_1020 (by decide) (fun h12 => absurd (show nI 0 = 0 by decide) h12) (fun h12 => ?_)
  refine g_aload_n X 5 dL_law_1023 rfl rfl ?_
  refine g_iconst X (v := nI 0) dL_law_1024 (by decide +kernel) ?_
  refine g_lald X 71 rfl (0) rfl (by omega) (Nat.le_of_ble_eq_true rfl) (v := (tellG (mnS C N S (nN v)) (nN q) (nN r))) (rfl.trans (by rw [eU6]; exact vpl_same _ _ _)) dL_law_1025 ?_
  refine g_lload X 0 dL_law_1026 rfl ?_
  refine g_lj_eq X (tgt := 1034) (pc1 := 1029) dL_law_1028 rfl dL_law_1029 (by decide) (fun h13 => ?_) (fun h13 => absurd rfl h13)
  refine g_goto X (tgt := 1363) dL_law_1034 (by decide) ?_
  refine g_lv [(0, .ref b), (1, .ref (x 0)), (2, .ref (h 0)), (3, .ref u), (4, .int (nI (4 * j)))] [2, 3, 4, 5, 6] rfl ?_
  refine g_widen (Nat.le_succ _) (Nat.le_add_right _ 6) ?_
  exact kk C N S Qk Z lC1 lN2 lS3 lQk4 lX5 U6 th7 K8 P9 Y10 mo (by (try rw [eY10]); (try rw [eP9]); (try rw [eK8]); (try rw [eth7]); (try rw [eU6]); (try rw [elX5]); (try rw [elQk4]); (try rw [elS3]); (try rw [elN2]); (try rw [elC1]); exact ⟨hIv, hLI.2.1, (mns_Iv hIv (nN v) (by omega)).2.2.2.2.1, Nat.le_refl _, Nat.le_refl _, Nat.le_refl _, hLI.2.2.2.2.2.2⟩)
set_option maxRecDepth 100000 in
set_option maxHeartbeats 4000000 in
theorem n_law_wouldX (l : Launch) (hl0 : l.stackTraces = false) (D : va_G) (cI cJ cZ : ClassId) (B0 : Nat) (x h : Nat → Nat) (u b L j : Nat) (xs : Nat → Int32) {p : Program} {e : Env} {s : State} {m : MethodId} {args : Array Value} {below : List Frame} {meth : Method} {c : Code} {A : Nat → Prop} (X : g_Cx p s m args c D A 8 cL_law RL cI cJ cZ) (Yx : g_Xx B0 A s) (hXs : va_X b L xs s s.heap) (hbl : b < s.heap.size) (hbA : ¬ A b) (hx : ∀ i, i < 71 → B0 ≤ x i) (hu : B0 ≤ u) (hj : 4 * j + 4 ≤ L) (hL : L ≤ 2048) {Q : State → Prop} (kc ks : Nat) (hkc : kc + 1 ≤ 1116) (hks : ks + 6 ≤ 10012) (C : Cf) (N : Nat → Nat) (S : St) (Qk : Nat → Int64) (Z : St) (jC : Cf) (jN : Nat → Nat) (jS : St) (jQ : Nat → Int64) (jZ : St) (U : Nat → Int64) (th : Int32) (K P : Nat → Int64) (Y : St) (mo : Nat) (hLI : LI C N S jC jN jS mo) (v : Int32) (q : Int32) (r : Int32) (h9v : xs (4 * j + 1) = v) (h9q : xs (4 * j + 2) = q) (h9r : xs (4 * j + 3) = r) (hc1 : ¬ cD3 v q r = 0) (kk : ∀ (C : Cf) (N : Nat → Nat) (S : St) (Qk : Nat → Int64) (Z : St) (jC : Cf) (jN : Nat → Nat) (jS : St) (jQ : Nat → Int64) (jZ : St) (U : Nat → Int64) (th : Int32) (K P : Nat → Int64) (Y9 : St) (mo : Nat), LI C N S jC jN jS mo → g_G p l e room_1 s m args below meth c D A 8 (kc + 1) (ks + 6) Q (wX2 x cI cJ cZ C N S Qk Z jC jN jS jQ jZ ++ ([(u, .inl (cJ, 1, .inr (.inl U)))] ++ wM h cI cJ cZ th C N S Qk K P Y9)) [(0, .ref b), (1, .ref (x 0)), (2, .ref (h 0)), (3, .ref u), (4, .int (nI (4 * j)))] 1363 []) : g_G p l e room_1 s m args below meth c D A 8 kc ks Q (wX2 x cI cJ cZ C N S Qk Z jC jN jS jQ jZ ++ ([(u, .inl (cJ, 1, .inr (.inl U)))] ++ wM h cI cJ cZ th C N S Qk K P Y)) [(0, .ref b), (1, .ref (x 0)), (2, .ref (h 0)), (3, .ref u), (4, .int (nI (4 * j)))] 958 [] := by
  have hIv := hLI.1
  have hm6 := hLI.2.1
  obtain ⟨hC, hR, hX, h3, hY, hWk9, hE9, h13, hq9, hB9, h10⟩ := hLI.1
  have hM : 0 ≤ (S 13 0).toInt ∧ (S 13 0).toInt ≤ 1000 := hE9.2.2
  have hW : Wok S := hWk9.ok (by omega)
  have hq : S 14 0 = lN (qN S) ∧ qN S ≤ 900000 := ⟨hq9.1, by omega⟩
  have hI := hIv.mons (by omega)
  have hZ := hLI.2.2.1
  have hn0 := hLI.2.2.2.1
  have hn1 := hLI.2.2.2.2.1
  have hn2 := hLI.2.2.2.2.2.1
  refine g_aload_n X 1 dL_law_958 rfl rfl ?_
  refine g_aload_n X 0 dL_law_959 rfl rfl ?_
  refine g_iload X 4 dL_law_960 rfl ?_
  refine g_iconst X (v := nI 1) dL_law_962 (by decide +kernel) ?_
  refine g_iadd X (v := nI (4 * j + 1)) dL_law_963 ((nI_add _ _).trans (congrArg nI (by omega))) ?_
  refine g_sld X hXs hbl hbA (4 * j + 1) rfl (by omega) (by omega) h9v dL_law_964 ?_
  refine g_aload_n X 0 dL_law_965 rfl rfl ?_
  refine g_iload X 4 dL_law_966 rfl ?_
  refine g_iconst X (v := nI 2) dL_law_968 (by decide +kernel) ?_
  refine g_iadd X (v := nI (4 * j + 2)) dL_law_969 ((nI_add _ _).trans (congrArg nI (by omega))) ?_
  refine g_sld X hXs hbl hbA (4 * j + 2) rfl (by omega) (by omega) h9q dL_law_970 ?_
  refine g_aload_n X 0 dL_law_971 rfl rfl ?_
  refine g_iload X 4 dL_law_972 rfl ?_
  refine g_iconst X (v := nI 3) dL_law_974 (by decide +kernel) ?_
  refine g_iadd X (v := nI (4 * j + 3)) dL_law_975 ((nI_add _ _).trans (congrArg nI (by omega))) ?_
  refine g_sld X hXs hbl hbA (4 * j + 3) rfl (by omega) (by omega) h9r dL_law_976 ?_
  refine g_aload_n X 3 dL_law_977 rfl rfl ?_
  refine g_callSW X Yx (As := [.ref (x 0), .int v, .int q, .int r, .ref u]) (rest := []) (m_L_wouldX l hl0 D cI cJ cZ B0 x C N S Qk Z jC jN jS jQ jZ u U v q r hC hR hX hI h3 hZ hY hn0 hn1 hn2 hc1 (bw_X2 hx hu)) kM_L_126 kT_yL_would kZ_RL kW_yL_would hV_L_would.2 rfl rfl rfl ⟨Nat.le_of_ble_eq_true rfl, Nat.le_of_ble_eq_true rfl⟩ (show _ ≤ 1116 ∧ _ ≤ 10012 by omega) (Nat.le_of_ble_eq_true rfl) dL_law_978 rfl (em_I 0 72 72 0) (em_C (by decide) (Nat.le_of_ble_eq_true rfl) rfl) (em_nd (by decide)) (g_kk1 (w2 := wX2 x cI cJ cZ C N S Qk Z jC jN jS jQ jZ ++ ([(u, .inl (cJ, 1, .inr (.inl U)))] ++ wM h cI cJ cZ th C N S Qk K P Y)) (em3 0 72 72 0 (by decide) (Nat.le_of_ble_eq_true rfl) rfl rfl rfl) ?_)
  refine g_istore X [(5, .int (nI (cD3 v q r))), (0, .ref b), (1, .ref (x 0)), (2, .ref (h 0)), (3, .ref u), (4, .int (nI (4 * j)))] dL_law_981 (Nat.le_of_ble_eq_true rfl) rfl ?_
  refine g_aload_n X 3 dL_law_983 rfl rfl ?_
  refine g_aload_n X 1 dL_law_984 rfl rfl ?_
  refine g_iload X 5 dL_law_985 rfl ?_
  refine g_iconst X (v := nI 1) dL_law_987 (by decide +kernel) ?_
  refine g_iadd X (v := nI (4 * j + 1)) dL_law_988 ((nI_add _ _).trans (congrArg nI (by omega))) ?_
  refine g_sld X hXs hbl hbA (4 * j + 1) rfl (by omega) (by omega) h9v dL_law_989 ?_
  refine g_aload_n X 1 dL_law_990 rfl rfl ?_
  refine g_iload X 5 dL_law_991 rfl ?_
  refine g_iconst X (v := nI 2) dL_law_993 (by decide +kernel) ?_
  refine g_iadd X (v := nI (4 * j + 2)) dL_law_994 ((nI_add _ _).trans (congrArg nI (by omega))) ?_
  refine g_sld X hXs hbl hbA (4 * j + 2) rfl (by omega) (by omega) h9q dL_law_995 ?_
  refine g_aload_n X 1 dL_law_996 rfl rfl ?_
  refine g_iload X 5 dL_law_997 rfl ?_
  refine g_iconst X (v := nI 3) dL_law_999 (by decide +kernel) ?_
  refine g_iadd X (v := nI (4 * j + 3)) dL_law_1000 ((nI_add _ _).trans (congrArg nI (by omega))) ?_
  refine g_sld X hXs hbl hbA (4 * j + 3) rfl (by omega) (by omega) h9r dL_law_1001 ?_
  have hm := m_X7_would l D cI cJ cZ h th C N S Qk K P Y v q r hC hR hX hI
  repeat rw [if_neg hc1] at hm
  obtain ⟨th1, eth1⟩ : ∃ z : Int32, z = nI (cD3 v q r) := ⟨_, rfl⟩
  refine g_callV X (As := [.int v, .int q, .int r]) (rest := []) hm kM_L_128 kI_yX7_would kS_yX7_would kZ_RX7 kC_yX7_would hV_X7_would rfl rfl rfl 0 rfl (ci := 7) rfl ⟨Nat.le_of_ble_eq_true rfl, Nat.le_of_ble_eq_true rfl⟩ (show _ ≤ 1116 ∧ _ ≤ 10012 by omega) (Nat.le_of_ble_eq_true rfl) dL_law_1002 rfl (em_I 72 17 89 0) (em_C (by decide) (Nat.le_of_ble_eq_true rfl) rfl) (em_nd (by decide)) (g_kk1 (w2 := wX2 x cI cJ cZ C N S Qk Z jC jN jS jQ jZ ++ ([(u, .inl (cJ, 1, .inr (.inl U)))] ++ wM h cI cJ cZ th1 C N S Qk K P Y)) (by rw [eth1]; exact (em3 72 17 89 0 (by decide) (Nat.le_of_ble_eq_true rfl) rfl rfl rfl)) ?_)
  refine g_lstore X [(6, .long (0 : Int64)), (5, .int (nI (cD3 v q r))), (0, .ref b), (1, .ref (x 0)), (2, .ref (h 0)), (3, .ref u), (4, .int (nI (4 * j)))] dL_law_1005 (Nat.le_of_ble_eq_true rfl) rfl ?_
  refine g_aload_n X 4 dL_law_1007 rfl rfl ?_
  refine g_callV X (As := []) (rest := []) (m_X7_thrown l D cI cJ cZ h th1 C N S Qk K P Y) kM_L_86 kI_yX7_thrown kS_yX7_thrown kZ_RX7 kC_yX7_thrown hV_X7_thrown rfl rfl rfl 0 rfl (ci := 7) rfl ⟨Nat.le_of_ble_eq_true rfl, Nat.le_of_ble_eq_true rfl⟩ (show _ ≤ 1116 ∧ _ ≤ 10012 by omega) (Nat.le_of_ble_eq_true rfl) dL_law_1008 rfl (em_I 72 17 89 0) (em_C (by decide) (Nat.le_of_ble_eq_true rfl) rfl) (em_nd (by decide)) (g_kk1 (w2 := wX2 x cI cJ cZ C N S Qk Z jC jN jS jQ jZ ++ ([(u, .inl (cJ, 1, .inr (.inl U)))] ++ wM h cI cJ cZ th1 C N S Qk K P Y)) (em3 72 17 89 0 (by decide) (Nat.le_of_ble_eq_true rfl) rfl rfl rfl) ?_)
  refine g_iload X 1 dL_law_1011 rfl ?_
  refine g_icmp_eq X (tgt := 1018) dL_law_1013 (by decide) (fun h2 => ?_) (fun h2 => absurd eth1 h2)
  refine g_iload X 1 dL_law_1018 rfl ?_
  refine g_if_ne X (tgt := 1034) dL_law_1020 (by decide) (fun h3 => ?_) (fun h3 => absurd h3 (nI_n0 (cD3_3 _ _ _) hc1))
  refine g_goto X (tgt := 1363) dL_law_1034 (by decide) ?_
  refine g_lv [(0, .ref b), (1, .ref (x 0)), (2, .ref (h 0)), (3, .ref u), (4, .int (nI (4 * j)))] [2, 3, 4, 5, 6] rfl ?_
  exact kk C N S Qk Z jC jN jS jQ jZ U th1 K P Y mo (by (try rw [eth1]); exact hLI)
