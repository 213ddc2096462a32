set_option maxRecDepth 100000 in
set_option maxHeartbeats 4000000 in
theorem n_law_count (l : Launch) (hl0 : l.stackTraces = false) (D : va_G) (cI cJ cZ : ClassId) (B0 : Nat) (x h : Nat → Nat) (u b L j : Nat) (xs : Nat → Int32) {p : Program} {e : Env} {s : State} {m : MethodId} {args : Array Value} {below : List Frame} {meth : Method} {c : Code} {A : Nat → Prop} (X : g_Cx p s m args c D A 8 cL_law RL cI cJ cZ) (Yx : g_Xx B0 A s) (hXs : va_X b L xs s s.heap) (hbl : b < s.heap.size) (hbA : ¬ A b) (hx : ∀ i, i < 71 → B0 ≤ x i) (hu : B0 ≤ u) (hj : 4 * j + 4 ≤ L) (hL : L ≤ 2048) {Q : State → Prop} (kc ks : Nat) (hkc : kc + 1 ≤ 1116) (hks : ks + 6 ≤ 10012) (C : Cf) (N : Nat → Nat) (S : St) (Qk : Nat → Int64) (Z : St) (jC : Cf) (jN : Nat → Nat) (jS : St) (jQ : Nat → Int64) (jZ : St) (U : Nat → Int64) (th : Int32) (K P : Nat → Int64) (Y : St) (mo : Nat) (hLI : LI C N S jC jN jS mo) (v : Int32) (h9v : xs (4 * j + 1) = v) (hc0 : cR1 v (nI 0) (nI 4) = 0) (kk : ∀ (C : Cf) (N : Nat → Nat) (S : St) (Qk : Nat → Int64) (Z : St) (jC : Cf) (jN : Nat → Nat) (jS : St) (jQ : Nat → Int64) (jZ : St) (U : Nat → Int64) (th : Int32) (K P : Nat → Int64) (Y9 : St) (mo : Nat), LI C N S jC jN jS mo → g_G p l e room_1 s m args below meth c D A 8 (kc + 1) (ks + 6) Q (wX2 x cI cJ cZ C N S Qk Z jC jN jS jQ jZ ++ ([(u, .inl (cJ, 1, .inr (.inl U)))] ++ wM h cI cJ cZ th C N S Qk K P Y9)) [(0, .ref b), (1, .ref (x 0)), (2, .ref (h 0)), (3, .ref u), (4, .int (nI (4 * j)))] 1363 []) : g_G p l e room_1 s m args below meth c D A 8 kc ks Q (wX2 x cI cJ cZ C N S Qk Z jC jN jS jQ jZ ++ ([(u, .inl (cJ, 1, .inr (.inl U)))] ++ wM h cI cJ cZ th C N S Qk K P Y)) [(0, .ref b), (1, .ref (x 0)), (2, .ref (h 0)), (3, .ref u), (4, .int (nI (4 * j)))] 1239 [] := by
  have hIv := hLI.1
  have hm6 := hLI.2.1
  obtain ⟨hC, hR, hX, h3, hY, hWk9, hE9, h13, hq9, hB9, h10⟩ := hLI.1
  have hM : 0 ≤ (S 13 0).toInt ∧ (S 13 0).toInt ≤ 1000 := hE9.2.2
  have hW : Wok S := hWk9.ok (by omega)
  have hq : S 14 0 = lN (qN S) ∧ qN S ≤ 900000 := ⟨hq9.1, by omega⟩
  have hI := hIv.mons (by omega)
  have hZ := hLI.2.2.1
  have hn0 := hLI.2.2.2.1
  have hn1 := hLI.2.2.2.2.1
  have hn2 := hLI.2.2.2.2.2.1
  refine g_aload_n X 1 dL_law_1239 rfl rfl ?_
  refine g_aload_n X 0 dL_law_1240 rfl rfl ?_
  refine g_iload X 4 dL_law_1241 rfl ?_
  refine g_iconst X (v := nI 1) dL_law_1243 (by decide +kernel) ?_
  refine g_iadd X (v := nI (4 * j + 1)) dL_law_1244 ((nI_add _ _).trans (congrArg nI (by omega))) ?_
  refine g_sld X hXs hbl hbA (4 * j + 1) rfl (by omega) (by omega) h9v dL_law_1245 ?_
  refine g_aload_n X 3 dL_law_1246 rfl rfl ?_
  obtain ⟨U1, eU1⟩ : ∃ z : Nat → Int64, z = vp_updL U 0 ((cnM N S v).toInt64) := ⟨_, rfl⟩
  refine g_callSW X Yx (As := [.ref (x 0), .int v, .ref u]) (rest := []) (m_L_count l hl0 D cI cJ cZ B0 x (x 36) C N S Qk Z u U v  hc0 (bw_X hx hu)) kM_L_138 kT_yL_count kZ_RL kW_yL_count hV_L_count.2 rfl rfl rfl ⟨Nat.le_of_ble_eq_true rfl, Nat.le_of_ble_eq_true rfl⟩ (show _ ≤ 1116 ∧ _ ≤ 10012 by omega) (Nat.le_of_ble_eq_true rfl) dL_law_1247 rfl (em_I 0 36 71 1) (em_C (by decide) (Nat.le_of_ble_eq_true rfl) rfl) (em_nd (by decide)) (g_kk1 (w2 := wX2 x cI cJ cZ C N S Qk Z jC jN jS jQ jZ ++ ([(u, .inl (cJ, 1, .inr (.inl U1)))] ++ wM h cI cJ cZ th C N S Qk K P Y)) (by rw [eU1]; exact (em3 0 36 71 1 (by decide) (Nat.le_of_ble_eq_true rfl) rfl rfl rfl)) ?_)
  refine g_istore X [(5, .int (nI 0)), (0, .ref b), (1, .ref (x 0)), (2, .ref (h 0)), (3, .ref u), (4, .int (nI (4 * j)))] dL_law_1250 (Nat.le_of_ble_eq_true rfl) rfl ?_
  refine g_aload_n X 3 dL_law_1252 rfl rfl ?_
  refine g_aload_n X 1 dL_law_1253 rfl rfl ?_
  refine g_iload X 5 dL_law_1254 rfl ?_
  refine g_iconst X (v := nI 1) dL_law_1256 (by decide +kernel) ?_
  refine g_iadd X (v := nI (4 * j + 1)) dL_law_1257 ((nI_add _ _).trans (congrArg nI (by omega))) ?_
  refine g_sld X hXs hbl hbA (4 * j + 1) rfl (by omega) (by omega) h9v dL_law_1258 ?_
  have hm := m_X7_count l D cI cJ cZ h th C N S Qk K P Y v 
  repeat rw [if_pos hc0] at hm
  rw [hc0] at hm
  obtain ⟨th2, eth2⟩ : ∃ z : Int32, z = nI 0 := ⟨_, rfl⟩
  refine g_callV X (As := [.int v]) (rest := []) hm kM_L_140 kI_yX7_count kS_yX7_count kZ_RX7 kC_yX7_count hV_X7_count rfl rfl rfl 0 rfl (ci := 7) rfl ⟨Nat.le_of_ble_eq_true rfl, Nat.le_of_ble_eq_true rfl⟩ (show _ ≤ 1116 ∧ _ ≤ 10012 by omega) (Nat.le_of_ble_eq_true rfl) dL_law_1259 rfl (em_I 72 17 89 0) (em_C (by decide) (Nat.le_of_ble_eq_true rfl) rfl) (em_nd (by decide)) (g_kk1 (w2 := wX2 x cI cJ cZ C N S Qk Z jC jN jS jQ jZ ++ ([(u, .inl (cJ, 1, .inr (.inl U1)))] ++ wM h cI cJ cZ th2 C N S Qk K P Y)) (by rw [eth2]; exact (em3 72 17 89 0 (by decide) (Nat.le_of_ble_eq_true rfl) rfl rfl rfl)) ?_)
  refine g_istore X [(6, .int (cnM N S v)), (5, .int (nI 0)), (0, .ref b), (1, .ref (x 0)), (2, .ref (h 0)), (3, .ref u), (4, .int (nI (4 * j)))] dL_law_1262 (Nat.le_of_ble_eq_true rfl) rfl ?_
  refine g_aload_n X 4 dL_law_1264 rfl rfl ?_
  refine g_callV X (As := []) (rest := []) (m_X7_thrown l D cI cJ cZ h th2 C N S Qk K P Y) kM_L_86 kI_yX7_thrown kS_yX7_thrown kZ_RX7 kC_yX7_thrown hV_X7_thrown rfl rfl rfl 0 rfl (ci := 7) rfl ⟨Nat.le_of_ble_eq_true rfl, Nat.le_of_ble_eq_true rfl⟩ (show _ ≤ 1116 ∧ _ ≤ 10012 by omega) (Nat.le_of_ble_eq_true rfl) dL_law_1265 rfl (em_I 72 17 89 0) (em_C (by decide) (Nat.le_of_ble_eq_true rfl) rfl) (em_nd (by decide)) (g_kk1 (w2 := wX2 x cI cJ cZ C N S Qk Z jC jN jS jQ jZ ++ ([(u, .inl (cJ, 1, .inr (.inl U1)))] ++ wM h cI cJ cZ th2 C N S Qk K P Y)) (em3 72 17 89 0 (by decide) (Nat.le_of_ble_eq_true rfl) rfl rfl rfl) ?_)
  refine g_iload X 1 dL_law_1268 rfl ?_
  refine g_icmp_eq X (tgt := 1275) dL_law_1270 (by decide) (fun h3 => ?_) (fun h3 => absurd eth2 h3)
  refine g_iload X 1 dL_law_1275 rfl ?_
  refine g_if_ne X (tgt := 1292) dL_law_1277 (by decide) (fun h4 => absurd (show nI 0 = 0 by decide) h4) (fun h4 => ?_)
  refine g_aload_n X 5 dL_law_1280 rfl rfl ?_
  refine g_iconst X (v := nI 0) dL_law_1281 (by decide +kernel) ?_
  refine g_lald X 71 rfl (0) rfl (by omega) (Nat.le_of_ble_eq_true rfl) (v := (cnM N S v).toInt64) (rfl.trans (by rw [eU1]; exact vpl_same _ _ _)) dL_law_1282 ?_
  refine g_iload X 0 dL_law_1283 rfl ?_
  refine g_i2l X (v := (cnM N S v).toInt64) dL_law_1285 rfl ?_
  refine g_lj_eq X (tgt := 1292) (pc1 := 1287) dL_law_1286 rfl dL_law_1287 (by decide) (fun h5 => ?_) (fun h5 => absurd rfl h5)
  refine g_goto X (tgt := 1363) dL_law_1292 (by decide) ?_
  refine g_lv [(0, .ref b), (1, .ref (x 0)), (2, .ref (h 0)), (3, .ref u), (4, .int (nI (4 * j)))] [2, 3, 4, 5, 6] rfl ?_
  refine g_widen (Nat.le_succ _) (Nat.le_add_right _ 6) ?_
  exact kk C N S Qk Z jC jN jS jQ jZ U1 th2 K P Y mo (by (try rw [eth2]); (try rw [eU1]); exact hLI)
set_option maxRecDepth 100000 in
set_option maxHeartbeats 4000000 in
theorem n_law_countX (l : Launch) (hl0 : l.stackTraces = false) (D : va_G) (cI cJ cZ : ClassId) (B0 : Nat) (x h : Nat → Nat) (u b L j : Nat) (xs : Nat → Int32) {p : Program} {e : Env} {s : State} {m : MethodId} {args : Array Value} {below : List Frame} {meth : Method} {c : Code} {A : Nat → Prop} (X : g_Cx p s m args c D A 8 cL_law RL cI cJ cZ) (Yx : g_Xx B0 A s) (hXs : va_X b L xs s s.heap) (hbl : b < s.heap.size) (hbA : ¬ A b) (hx : ∀ i, i < 71 → B0 ≤ x i) (hu : B0 ≤ u) (hj : 4 * j + 4 ≤ L) (hL : L ≤ 2048) {Q : State → Prop} (kc ks : Nat) (hkc : kc + 1 ≤ 1116) (hks : ks + 6 ≤ 10012) (C : Cf) (N : Nat → Nat) (S : St) (Qk : Nat → Int64) (Z : St) (jC : Cf) (jN : Nat → Nat) (jS : St) (jQ : Nat → Int64) (jZ : St) (U : Nat → Int64) (th : Int32) (K P : Nat → Int64) (Y : St) (mo : Nat) (hLI : LI C N S jC jN jS mo) (v : Int32) (h9v : xs (4 * j + 1) = v) (hc1 : ¬ cR1 v (nI 0) (nI 4) = 0) (kk : ∀ (C : Cf) (N : Nat → Nat) (S : St) (Qk : Nat → Int64) (Z : St) (jC : Cf) (jN : Nat → Nat) (jS : St) (jQ : Nat → Int64) (jZ : St) (U : Nat → Int64) (th : Int32) (K P : Nat → Int64) (Y9 : St) (mo : Nat), LI C N S jC jN jS mo → g_G p l e room_1 s m args below meth c D A 8 (kc + 1) (ks + 6) Q (wX2 x cI cJ cZ C N S Qk Z jC jN jS jQ jZ ++ ([(u, .inl (cJ, 1, .inr (.inl U)))] ++ wM h cI cJ cZ th C N S Qk K P Y9)) [(0, .ref b), (1, .ref (x 0)), (2, .ref (h 0)), (3, .ref u), (4, .int (nI (4 * j)))] 1363 []) : g_G p l e room_1 s m args below meth c D A 8 kc ks Q (wX2 x cI cJ cZ C N S Qk Z jC jN jS jQ jZ ++ ([(u, .inl (cJ, 1, .inr (.inl U)))] ++ wM h cI cJ cZ th C N S Qk K P Y)) [(0, .ref b), (1, .ref (x 0)), (2, .ref (h 0)), (3, .ref u), (4, .int (nI (4 * j)))] 1239 [] := by
  have hIv := hLI.1
  have hm6 := hLI.2.1
  obtain ⟨hC, hR, hX, h3, hY, hWk9, hE9, h13, hq9, hB9, h10⟩ := hLI.1
  have hM : 0 ≤ (S 13 0).toInt ∧ (S 13 0).toInt ≤ 1000 := hE9.2.2
  have hW : Wok S := hWk9.ok (by omega)
  have hq : S 14 0 = lN (qN S) ∧ qN S ≤ 900000 := ⟨hq9.1, by omega⟩
  have hI := hIv.mons (by omega)
  have hZ := hLI.2.2.1
  have hn0 := hLI.2.2.2.1
  have hn1 := hLI.2.2.2.2.1
  have hn2 := hLI.2.2.2.2.2.1
  refine g_aload_n X 1 dL_law_1239 rfl rfl ?_
  refine g_aload_n X 0 dL_law_1240 rfl rfl ?_
  refine g_iload X 4 dL_law_1241 rfl ?_
  refine g_iconst X (v := nI 1) dL_law_1243 (by decide +kernel) ?_
  refine g_iadd X (v := nI (4 * j + 1)) dL_law_1244 ((nI_add _ _).trans (congrArg nI (by omega))) ?_
  refine g_sld X hXs hbl hbA (4 * j + 1) rfl (by omega) (by omega) h9v dL_law_1245 ?_
  refine g_aload_n X 3 dL_law_1246 rfl rfl ?_
  refine g_callSW X Yx (As := [.ref (x 0), .int v, .ref u]) (rest := []) (m_L_countX l hl0 D cI cJ cZ B0 x (x 36) C N S Qk Z u U v  hc1 (bw_X hx hu)) kM_L_138 kT_yL_count kZ_RL kW_yL_count hV_L_count.2 rfl rfl rfl ⟨Nat.le_of_ble_eq_true rfl, Nat.le_of_ble_eq_true rfl⟩ (show _ ≤ 1116 ∧ _ ≤ 10012 by omega) (Nat.le_of_ble_eq_true rfl) dL_law_1247 rfl (em_I 0 36 71 1) (em_C (by decide) (Nat.le_of_ble_eq_true rfl) rfl) (em_nd (by decide)) (g_kk1 (w2 := wX2 x cI cJ cZ C N S Qk Z jC jN jS jQ jZ ++ ([(u, .inl (cJ, 1, .inr (.inl U)))] ++ wM h cI cJ cZ th C N S Qk K P Y)) (em3 0 36 71 1 (by decide) (Nat.le_of_ble_eq_true rfl) rfl rfl rfl) ?_)
  refine g_istore X [(5, .int (nI (cR1 v (nI 0) (nI 4)))), (0, .ref b), (1, .ref (x 0)), (2, .ref (h 0)), (3, .ref u), (4, .int (nI (4 * j)))] dL_law_1250 (Nat.le_of_ble_eq_true rfl) rfl ?_
  refine g_aload_n X 3 dL_law_1252 rfl rfl ?_
  refine g_aload_n X 1 dL_law_1253 rfl rfl ?_
  refine g_iload X 5 dL_law_1254 rfl ?_
  refine g_iconst X (v := nI 1) dL_law_1256 (by decide +kernel) ?_
  refine g_iadd X (v := nI (4 * j + 1)) dL_law_1257 ((nI_add _ _).trans (congrArg nI (by omega))) ?_
  refine g_sld X hXs hbl hbA (4 * j + 1) rfl (by omega) (by omega) h9v dL_law_1258 ?_
  have hm := m_X7_count l D cI cJ cZ h th C N S Qk K P Y v 
  repeat rw [if_neg hc1] at hm
  obtain ⟨th1, eth1⟩ : ∃ z : Int32, z = nI (cR1 v (nI 0) (nI 4)) := ⟨_, rfl⟩
  refine g_callV X (As := [.int v]) (rest := []) hm kM_L_140 kI_yX7_count kS_yX7_count kZ_RX7 kC_yX7_count hV_X7_count rfl rfl rfl 0 rfl (ci := 7) rfl ⟨Nat.le_of_ble_eq_true rfl, Nat.le_of_ble_eq_true rfl⟩ (show _ ≤ 1116 ∧ _ ≤ 10012 by omega) (Nat.le_of_ble_eq_true rfl) dL_law_1259 rfl (em_I 72 17 89 0) (em_C (by decide) (Nat.le_of_ble_eq_true rfl) rfl) (em_nd (by decide)) (g_kk1 (w2 := wX2 x cI cJ cZ C N S Qk Z jC jN jS jQ jZ ++ ([(u, .inl (cJ, 1, .inr (.inl U)))] ++ wM h cI cJ cZ th1 C N S Qk K P Y)) (by rw [eth1]; exact (em3 72 17 89 0 (by decide) (Nat.le_of_ble_eq_true rfl) rfl rfl rfl)) ?_)
  refine g_istore X [(6, .int (nI 0)), (5, .int (nI (cR1 v (nI 0) (nI 4)))), (0, .ref b), (1, .ref (x 0)), (2, .ref (h 0)), (3, .ref u), (4, .int (nI (4 * j)))] dL_law_1262 (Nat.le_of_ble_eq_true rfl) rfl ?_
  refine g_aload_n X 4 dL_law_1264 rfl rfl ?_
  refine g_callV X (As := []) (rest := []) (m_X7_thrown l D cI cJ cZ h th1 C N S Qk K P Y) kM_L_86 kI_yX7_thrown kS_yX7_thrown kZ_RX7 kC_yX7_thrown hV_X7_thrown rfl rfl rfl 0 rfl (ci := 7) rfl ⟨Nat.le_of_ble_eq_true rfl, Nat.le_of_ble_eq_true rfl⟩ (show _ ≤ 1116 ∧ _ ≤ 10012 by omega) (Nat.le_of_ble_eq_true rfl) dL_law_1265 rfl (em_I 72 17 89 0) (em_C (by decide) (Nat.le_of_ble_eq_true rfl) rfl) (em_nd (by decide)) (g_kk1 (w2 := wX2 x cI cJ cZ C N S Qk Z jC jN jS jQ jZ ++ ([(u, .inl (cJ, 1, .inr (.inl U)))] ++ wM h cI cJ cZ th1 C N S Qk K P Y)) (em3 72 17 89 0 (by decide) (Nat.le_of_ble_eq_true rfl) rfl rfl rfl) ?_)
  refine g_iload X 1 dL_law_1268 rfl ?_
  refine g_icmp_eq X (tgt := 1275) dL_law_1270 (by decide) (fun h2 => ?_) (fun h2 => absurd eth1 h2)
  refine g_iload X 1 dL_law_1275 rfl ?_
  refine g_if_ne X (tgt := 1292) dL_law_1277 (by decide) (fun h3 => ?_) (fun h3 => absurd h3 (nI_n0 (cR1_3 _ _ _) hc1))
  refine g_goto X (tgt := 1363) dL_law_1292 (by decide) ?_
  refine g_lv [(0, .ref b), (1, .ref (x 0)), (2, .ref (h 0)), (3, .ref u), (4, .int (nI (4 * j)))] [2, 3, 4, 5, 6] rfl ?_
  exact kk C N S Qk Z jC jN jS jQ jZ U th1 K P Y mo (by (try rw [eth1]); exact hLI)
