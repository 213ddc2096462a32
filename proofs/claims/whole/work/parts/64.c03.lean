set_option maxRecDepth 100000 in
set_option maxHeartbeats 4000000 in
theorem n_law_well (l : Launch) (hl0 : l.stackTraces = false) (D : va_G) (cI cJ cZ : ClassId) (B0 : Nat) (x h : Nat → Nat) (u b L j : Nat) (xs : Nat → Int32) {p : Program} {e : Env} {s : State} {m : MethodId} {args : Array Value} {below : List Frame} {meth : Method} {c : Code} {A : Nat → Prop} (X : g_Cx p s m args c D A 8 cL_law RL cI cJ cZ) (Yx : g_Xx B0 A s) (hXs : va_X b L xs s s.heap) (hbl : b < s.heap.size) (hbA : ¬ A b) (hx : ∀ i, i < 71 → B0 ≤ x i) (hu : B0 ≤ u) (hj : 4 * j + 4 ≤ L) (hL : L ≤ 2048) {Q : State → Prop} (kc ks : Nat) (hkc : kc + 1 ≤ 1116) (hks : ks + 6 ≤ 10012) (C : Cf) (N : Nat → Nat) (S : St) (Qk : Nat → Int64) (Z : St) (jC : Cf) (jN : Nat → Nat) (jS : St) (jQ : Nat → Int64) (jZ : St) (U : Nat → Int64) (th : Int32) (K P : Nat → Int64) (Y : St) (mo : Nat) (hLI : LI C N S jC jN jS mo) (v : Int32) (q : Int32) (r : Bool) (h9v : xs (4 * j + 1) = v) (h9q : xs (4 * j + 2) = q) (hrb : (if q = 0 then false else true) = r) (hc0 : cL1 (N 0) v = 0) (kk : ∀ (C : Cf) (N : Nat → Nat) (S : St) (Qk : Nat → Int64) (Z : St) (jC : Cf) (jN : Nat → Nat) (jS : St) (jQ : Nat → Int64) (jZ : St) (U : Nat → Int64) (th : Int32) (K P : Nat → Int64) (Y9 : St) (mo : Nat), LI C N S jC jN jS mo → g_G p l e room_1 s m args below meth c D A 8 (kc + 1) (ks + 6) Q (wX2 x cI cJ cZ C N S Qk Z jC jN jS jQ jZ ++ ([(u, .inl (cJ, 1, .inr (.inl U)))] ++ wM h cI cJ cZ th C N S Qk K P Y9)) [(0, .ref b), (1, .ref (x 0)), (2, .ref (h 0)), (3, .ref u), (4, .int (nI (4 * j)))] 1363 []) : g_G p l e room_1 s m args below meth c D A 8 kc ks Q (wX2 x cI cJ cZ C N S Qk Z jC jN jS jQ jZ ++ ([(u, .inl (cJ, 1, .inr (.inl U)))] ++ wM h cI cJ cZ th C N S Qk K P Y)) [(0, .ref b), (1, .ref (x 0)), (2, .ref (h 0)), (3, .ref u), (4, .int (nI (4 * j)))] 344 [] := by
  have hIv := hLI.1
  have hm6 := hLI.2.1
  obtain ⟨hC, hR, hX, h3, hY, hWk9, hE9, h13, hq9, hB9, h10⟩ := hLI.1
  have hM : 0 ≤ (S 13 0).toInt ∧ (S 13 0).toInt ≤ 1000 := hE9.2.2
  have hW : Wok S := hWk9.ok (by omega)
  have hq : S 14 0 = lN (qN S) ∧ qN S ≤ 900000 := ⟨hq9.1, by omega⟩
  have hI := hIv.mons (by omega)
  have hZ := hLI.2.2.1
  have hn0 := hLI.2.2.2.1
  have hn1 := hLI.2.2.2.2.1
  have hn2 := hLI.2.2.2.2.2.1
  refine g_aload_n X 1 dL_law_344 rfl rfl ?_
  refine g_aload_n X 0 dL_law_345 rfl rfl ?_
  refine g_iload X 4 dL_law_346 rfl ?_
  refine g_iconst X (v := nI 1) dL_law_348 (by decide +kernel) ?_
  refine g_iadd X (v := nI (4 * j + 1)) dL_law_349 ((nI_add _ _).trans (congrArg nI (by omega))) ?_
  refine g_sld X hXs hbl hbA (4 * j + 1) rfl (by omega) (by omega) h9v dL_law_350 ?_
  refine g_aload_n X 0 dL_law_351 rfl rfl ?_
  refine g_iload X 4 dL_law_352 rfl ?_
  refine g_iconst X (v := nI 2) dL_law_354 (by decide +kernel) ?_
  refine g_iadd X (v := nI (4 * j + 2)) dL_law_355 ((nI_add _ _).trans (congrArg nI (by omega))) ?_
  refine g_sld X hXs hbl hbA (4 * j + 2) rfl (by omega) (by omega) h9q dL_law_356 ?_
  have J3 : ∀ (v2 : Bool), v2 = (if q = 0 then false else true) → g_G p l e room_1 s m args below meth c D A 8 kc ks Q (wX2 x cI cJ cZ C N S Qk Z jC jN jS jQ jZ ++ ([(u, .inl (cJ, 1, .inr (.inl U)))] ++ wM h cI cJ cZ th C N S Qk K P Y)) [(0, .ref b), (1, .ref (x 0)), (2, .ref (h 0)), (3, .ref u), (4, .int (nI (4 * j)))] 365 [.int (bI v2), .int v, .ref (x 0)] := by
    intro v2 ev2
    refine g_st (st' := [.int (bI r), .int v, .ref (x 0)]) (by rw [ev2, hrb]) ?_
    refine g_aload_n X 3 dL_law_365 rfl rfl ?_
    obtain ⟨C4, eC4⟩ : ∃ z : Cf, z = (c2 (c2 C 2 (N 0) v) 3 (N 0) (bI r)) := ⟨_, rfl⟩
    obtain ⟨N5, eN5⟩ : ∃ z : Nat → Nat, z = (n2 N 0 (N 0 + 1)) := ⟨_, rfl⟩
    obtain ⟨S6, eS6⟩ : ∃ z : St, z = (u2 S 8 (N 0) (-1)) := ⟨_, rfl⟩
    obtain ⟨U7, eU7⟩ : ∃ z : Nat → Int64, z = vp_updL U 0 ((nI (N 0)).toInt64) := ⟨_, rfl⟩
    refine g_callSW X Yx (As := [.ref (x 0), .int v, .int (bI r), .ref u]) (rest := []) (m_L_well l hl0 D cI cJ cZ B0 x (x 36) C N S Qk Z u U v r hC hc0 (bw_X hx hu)) kM_L_97 kT_yL_well kZ_RL kW_yL_well hV_L_well.2 rfl rfl rfl ⟨Nat.le_of_ble_eq_true rfl, Nat.le_of_ble_eq_true rfl⟩ (show _ ≤ 1116 ∧ _ ≤ 10012 by omega) (Nat.le_of_ble_eq_true rfl) dL_law_366 rfl (em_I 0 36 71 1) (em_C (by decide) (Nat.le_of_ble_eq_true rfl) rfl) (em_nd (by decide)) (g_kk1 (w2 := wX2 x cI cJ cZ C4 N5 S6 Qk Z jC jN jS jQ jZ ++ ([(u, .inl (cJ, 1, .inr (.inl U7)))] ++ wM h cI cJ cZ th C N S Qk K P Y)) (by rw [eU7]; rw [eS6]; rw [eN5]; rw [eC4]; exact (em3 0 36 71 1 (by decide) (Nat.le_of_ble_eq_true rfl) rfl rfl rfl)) ?_)
    refine g_istore X [(5, .int (nI 0)), (0, .ref b), (1, .ref (x 0)), (2, .ref (h 0)), (3, .ref u), (4, .int (nI (4 * j)))] dL_law_369 (Nat.le_of_ble_eq_true rfl) rfl ?_
    refine g_aload_n X 3 dL_law_371 rfl rfl ?_
    refine g_aload_n X 1 dL_law_372 rfl rfl ?_
    refine g_iload X 5 dL_law_373 rfl ?_
    refine g_iconst X (v := nI 1) dL_law_375 (by decide +kernel) ?_
    refine g_iadd X (v := nI (4 * j + 1)) dL_law_376 ((nI_add _ _).trans (congrArg nI (by omega))) ?_
    refine g_sld X hXs hbl hbA (4 * j + 1) rfl (by omega) (by omega) h9v dL_law_377 ?_
    refine g_aload_n X 1 dL_law_378 rfl rfl ?_
    refine g_iload X 5 dL_law_379 rfl ?_
    refine g_iconst X (v := nI 2) dL_law_381 (by decide +kernel) ?_
    refine g_iadd X (v := nI (4 * j + 2)) dL_law_382 ((nI_add _ _).trans (congrArg nI (by omega))) ?_
    refine g_sld X hXs hbl hbA (4 * j + 2) rfl (by omega) (by omega) h9q dL_law_383 ?_
    have J10 : ∀ (v9 : Bool), v9 = (if q = 0 then false else true) → g_G p l e room_1 s m args below meth c D A 8 kc ks Q (wX2 x cI cJ cZ C4 N5 S6 Qk Z jC jN jS jQ jZ ++ ([(u, .inl (cJ, 1, .inr (.inl U7)))] ++ wM h cI cJ cZ th C N S Qk K P Y)) [(0, .ref b), (1, .ref (x 0)), (2, .ref (h 0)), (3, .ref u), (4, .int (nI (4 * j))), (5, .int (nI 0))] 392 [.int (bI v9), .int v, .ref (h 0)] := by
      intro v9 ev9
      have hm := m_X7_well l D cI cJ cZ h th C N S Qk K P Y v r hC
      repeat rw [if_pos hc0] at hm
      rw [hc0] at hm
      refine g_st (st' := [.int (bI r), .int v, .ref (h 0)]) (by rw [ev9, hrb]) ?_
      obtain ⟨th11, eth11⟩ : ∃ z : Int32, z = nI 0 := ⟨_, rfl⟩
      refine g_callV X (As := [.int v, .int (bI r)]) (rest := []) hm kM_L_100 kI_yX7_well kS_yX7_well kZ_RX7 kC_yX7_well hV_X7_well rfl rfl rfl 0 rfl (ci := 7) rfl ⟨Nat.le_of_ble_eq_true rfl, Nat.le_of_ble_eq_true rfl⟩ (show _ ≤ 1116 ∧ _ ≤ 10012 by omega) (Nat.le_of_ble_eq_true rfl) dL_law_392 rfl (em_I 72 17 89 0) (em_C (by decide) (Nat.le_of_ble_eq_true rfl) rfl) (em_nd (by decide)) (g_kk1 (w2 := wX2 x cI cJ cZ C4 N5 S6 Qk Z jC jN jS jQ jZ ++ ([(u, .inl (cJ, 1, .inr (.inl U7)))] ++ wM h cI cJ cZ th11 C4 N5 S6 Qk K P Y)) (by rw [eth11]; rw [eS6]; rw [eN5]; rw [eC4]; exact (em3 72 17 89 0 (by decide) (Nat.le_of_ble_eq_true rfl) rfl rfl rfl)) ?_)
      refine g_istore X [(6, .int (nI (N 0))), (0, .ref b), (1, .ref (x 0)), (2, .ref (h 0)), (3, .ref u), (4, .int (nI (4 * j))), (5, .int (nI 0))] dL_law_395 (Nat.le_of_ble_eq_true rfl) rfl ?_
      refine g_aload_n X 3 dL_law_397 rfl rfl ?_
      refine g_callV X (As := []) (rest := []) (m_X7_thrown l D cI cJ cZ h th11 C4 N5 S6 Qk K P Y) kM_L_86 kI_yX7_thrown kS_yX7_thrown kZ_RX7 kC_yX7_thrown hV_X7_thrown rfl rfl rfl 0 rfl (ci := 7) rfl ⟨Nat.le_of_ble_eq_true rfl, Nat.le_of_ble_eq_true rfl⟩ (show _ ≤ 1116 ∧ _ ≤ 10012 by omega) (Nat.le_of_ble_eq_true rfl) dL_law_398 rfl (em_I 72 17 89 0) (em_C (by decide) (Nat.le_of_ble_eq_true rfl) rfl) (em_nd (by decide)) (g_kk1 (w2 := wX2 x cI cJ cZ C4 N5 S6 Qk Z jC jN jS jQ jZ ++ ([(u, .inl (cJ, 1, .inr (.inl U7)))] ++ wM h cI cJ cZ th11 C4 N5 S6 Qk K P Y)) (em3 72 17 89 0 (by decide) (Nat.le_of_ble_eq_true rfl) rfl rfl rfl) ?_)
      refine g_iload X 6 dL_law_401 rfl ?_
      refine g_icmp_eq X (tgt := 408) dL_law_403 (by decide) (fun h12 => ?_) (fun h12 => absurd eth11 h12)
      refine g_iload X 6 dL_law_408 rfl ?_
      refine g_if_ne X (tgt := 425) dL_law_410 (by decide) (fun h13 => absurd (show nI 0 = 0 by decide) h13) (fun h13 => ?_)
      refine g_aload_n X 4 dL_law_413 rfl rfl ?_
      refine g_iconst X (v := nI 0) dL_law_414 (by decide +kernel) ?_
      refine g_lald X 71 rfl (0) rfl (by omega) (Nat.le_of_ble_eq_true rfl) (v := (nI (N 0)).toInt64) (rfl.trans (by rw [eU7]; exact vpl_same _ _ _)) dL_law_415 ?_
      refine g_iload X 0 dL_law_416 rfl ?_
      refine g_i2l X (v := (nI (N 0)).toInt64) dL_law_418 rfl ?_
      refine g_lj_eq X (tgt := 425) (pc1 := 420) dL_law_419 rfl dL_law_420 (by decide) (fun h14 => ?_) (fun h14 => absurd rfl h14)
      refine g_goto X (tgt := 1363) dL_law_425 (by decide) ?_
      refine g_lv [(0, .ref b), (1, .ref (x 0)), (2, .ref (h 0)), (3, .ref u), (4, .int (nI (4 * j)))] [1, 2, 3, 4, 5] rfl ?_
      refine g_widen (Nat.le_succ _) (Nat.le_add_right _ 6) ?_
      exact kk C4 N5 S6 Qk Z jC jN jS jQ jZ U7 th11 K P Y mo (by (try rw [eth11]); (try rw [ev9]); (try rw [eU7]); (try rw [eS6]); (try rw [eN5]); (try rw [eC4]); (try rw [ev2]); exact ⟨iv_well hIv (by have := (cL1_0 hc0).2; have := hC.n0; omega) (cL1_0 hc0).1, hLI.2.1, hLI.2.2.1, Nat.le_succ_of_le hLI.2.2.2.1, hLI.2.2.2.2.1, hLI.2.2.2.2.2.1, Hv.mv hLI.2.2.2.2.2.2 (Eq.trans (c2_6 (by decide)) (c2_6 (by decide))) rfl (u2_c _ _ _ (by decide)) (u2_c _ _ _ (by decide))⟩)
    refine g_if_eq X (tgt := 391) dL_law_384 (by decide) (fun h8 => ?_) (fun h8 => ?_)
    · --
      refine g_iconst X (v := nI 0) dL_law_391 (by decide +kernel) ?_
      refine g_lv _ [1, 2, 3, 4, 5, 0] rfl ?_
      exact J10 _ (by rw [if_pos (c := q = 0) h8])
    · --
      refine g_iconst X (v := nI 1) dL_law_387 (by decide +kernel) ?_
      refine g_goto X (tgt := 392) dL_law_388 (by decide) ?_
      refine g_lv _ [1, 2, 3, 4, 5, 0] rfl ?_
      exact J10 _ (by rw [if_neg (c := q = 0) h8])
  refine g_if_eq X (tgt := 364) dL_law_357 (by decide) (fun h1 => ?_) (fun h1 => ?_)
  · --
    refine g_iconst X (v := nI 0) dL_law_364 (by decide +kernel) ?_
    exact J3 _ (by rw [if_pos (c := q = 0) h1])
  · --
    refine g_iconst X (v := nI 1) dL_law_360 (by decide +kernel) ?_
    refine g_goto X (tgt := 365) dL_law_361 (by decide) ?_
    exact J3 _ (by rw [if_neg (c := q = 0) h1])
set_option maxRecDepth 100000 in
set_option maxHeartbeats 4000000 in
theorem n_law_wellX (l : Launch) (hl0 : l.stackTraces = false) (D : va_G) (cI cJ cZ : ClassId) (B0 : Nat) (x h : Nat → Nat) (u b L j : Nat) (xs : Nat → Int32) {p : Program} {e : Env} {s : State} {m : MethodId} {args : Array Value} {below : List Frame} {meth : Method} {c : Code} {A : Nat → Prop} (X : g_Cx p s m args c D A 8 cL_law RL cI cJ cZ) (Yx : g_Xx B0 A s) (hXs : va_X b L xs s s.heap) (hbl : b < s.heap.size) (hbA : ¬ A b) (hx : ∀ i, i < 71 → B0 ≤ x i) (hu : B0 ≤ u) (hj : 4 * j + 4 ≤ L) (hL : L ≤ 2048) {Q : State → Prop} (kc ks : Nat) (hkc : kc + 1 ≤ 1116) (hks : ks + 6 ≤ 10012) (C : Cf) (N : Nat → Nat) (S : St) (Qk : Nat → Int64) (Z : St) (jC : Cf) (jN : Nat → Nat) (jS : St) (jQ : Nat → Int64) (jZ : St) (U : Nat → Int64) (th : Int32) (K P : Nat → Int64) (Y : St) (mo : Nat) (hLI : LI C N S jC jN jS mo) (v : Int32) (q : Int32) (r : Bool) (h9v : xs (4 * j + 1) = v) (h9q : xs (4 * j + 2) = q) (hrb : (if q = 0 then false else true) = r) (hc1 : ¬ cL1 (N 0) v = 0) (kk : ∀ (C : Cf) (N : Nat → Nat) (S : St) (Qk : Nat → Int64) (Z : St) (jC : Cf) (jN : Nat → Nat) (jS : St) (jQ : Nat → Int64) (jZ : St) (U : Nat → Int64) (th : Int32) (K P : Nat → Int64) (Y9 : St) (mo : Nat), LI C N S jC jN jS mo → g_G p l e room_1 s m args below meth c D A 8 (kc + 1) (ks + 6) Q (wX2 x cI cJ cZ C N S Qk Z jC jN jS jQ jZ ++ ([(u, .inl (cJ, 1, .inr (.inl U)))] ++ wM h cI cJ cZ th C N S Qk K P Y9)) [(0, .ref b), (1, .ref (x 0)), (2, .ref (h 0)), (3, .ref u), (4, .int (nI (4 * j)))] 1363 []) : g_G p l e room_1 s m args below meth c D A 8 kc ks Q (wX2 x cI cJ cZ C N S Qk Z jC jN jS jQ jZ ++ ([(u, .inl (cJ, 1, .inr (.inl U)))] ++ wM h cI cJ cZ th C N S Qk K P Y)) [(0, .ref b), (1, .ref (x 0)), (2, .ref (h 0)), (3, .ref u), (4, .int (nI (4 * j)))] 344 [] := by
  have hIv := hLI.1
  have hm6 := hLI.2.1
  obtain ⟨hC, hR, hX, h3, hY, hWk9, hE9, h13, hq9, hB9, h10⟩ := hLI.1
  have hM : 0 ≤ (S 13 0).toInt ∧ (S 13 0).toInt ≤ 1000 := hE9.2.2
  have hW : Wok S := hWk9.ok (by omega)
  have hq : S 14 0 = lN (qN S) ∧ qN S ≤ 900000 := ⟨hq9.1, by omega⟩
  have hI := hIv.mons (by omega)
  have hZ := hLI.2.2.1
  have hn0 := hLI.2.2.2.1
  have hn1 := hLI.2.2.2.2.1
  have hn2 := hLI.2.2.2.2.2.1
  refine g_aload_n X 1 dL_law_344 rfl rfl ?_
  refine g_aload_n X 0 dL_law_345 rfl rfl ?_
  refine g_iload X 4 dL_law_346 rfl ?_
  refine g_iconst X (v := nI 1) dL_law_348 (by decide +kernel) ?_
  refine g_iadd X (v := nI (4 * j + 1)) dL_law_349 ((nI_add _ _).trans (congrArg nI (by omega))) ?_
  refine g_sld X hXs hbl hbA (4 * j + 1) rfl (by omega) (by omega) h9v dL_law_350 ?_
  refine g_aload_n X 0 dL_law_351 rfl rfl ?_
  refine g_iload X 4 dL_law_352 rfl ?_
  refine g_iconst X (v := nI 2) dL_law_354 (by decide +kernel) ?_
  refine g_iadd X (v := nI (4 * j + 2)) dL_law_355 ((nI_add _ _).trans (congrArg nI (by omega))) ?_
  refine g_sld X hXs hbl hbA (4 * j + 2) rfl (by omega) (by omega) h9q dL_law_356 ?_
  have J3 : ∀ (v2 : Bool), v2 = (if q = 0 then false else true) → g_G p l e room_1 s m args below meth c D A 8 kc ks Q (wX2 x cI cJ cZ C N S Qk Z jC jN jS jQ jZ ++ ([(u, .inl (cJ, 1, .inr (.inl U)))] ++ wM h cI cJ cZ th C N S Qk K P Y)) [(0, .ref b), (1, .ref (x 0)), (2, .ref (h 0)), (3, .ref u), (4, .int (nI (4 * j)))] 365 [.int (bI v2), .int v, .ref (x 0)] := by
    intro v2 ev2
    refine g_st (st' := [.int (bI r), .int v, .ref (x 0)]) (by rw [ev2, hrb]) ?_
    refine g_aload_n X 3 dL_law_365 rfl rfl ?_
    refine g_callSW X Yx (As := [.ref (x 0), .int v, .int (bI r), .ref u]) (rest := []) (m_L_wellX l hl0 D cI cJ cZ B0 x (x 36) C N S Qk Z u U v r hC hc1 (bw_X hx hu)) kM_L_97 kT_yL_well kZ_RL kW_yL_well hV_L_well.2 rfl rfl rfl ⟨Nat.le_of_ble_eq_true rfl, Nat.le_of_ble_eq_true rfl⟩ (show _ ≤ 1116 ∧ _ ≤ 10012 by omega) (Nat.le_of_ble_eq_true rfl) dL_law_366 rfl (em_I 0 36 71 1) (em_C (by decide) (Nat.le_of_ble_eq_true rfl) rfl) (em_nd (by decide)) (g_kk1 (w2 := wX2 x cI cJ cZ C N S Qk Z jC jN jS jQ jZ ++ ([(u, .inl (cJ, 1, .inr (.inl U)))] ++ wM h cI cJ cZ th C N S Qk K P Y)) (em3 0 36 71 1 (by decide) (Nat.le_of_ble_eq_true rfl) rfl rfl rfl) ?_)
    refine g_istore X [(5, .int (nI (cL1 (N 0) v))), (0, .ref b), (1, .ref (x 0)), (2, .ref (h 0)), (3, .ref u), (4, .int (nI (4 * j)))] dL_law_369 (Nat.le_of_ble_eq_true rfl) rfl ?_
    refine g_aload_n X 3 dL_law_371 rfl rfl ?_
    refine g_aload_n X 1 dL_law_372 rfl rfl ?_
    refine g_iload X 5 dL_law_373 rfl ?_
    refine g_iconst X (v := nI 1) dL_law_375 (by decide +kernel) ?_
    refine g_iadd X (v := nI (4 * j + 1)) dL_law_376 ((nI_add _ _).trans (congrArg nI (by omega))) ?_
    refine g_sld X hXs hbl hbA (4 * j + 1) rfl (by omega) (by omega) h9v dL_law_377 ?_
    refine g_aload_n X 1 dL_law_378 rfl rfl ?_
    refine g_iload X 5 dL_law_379 rfl ?_
    refine g_iconst X (v := nI 2) dL_law_381 (by decide +kernel) ?_
    refine g_iadd X (v := nI (4 * j + 2)) dL_law_382 ((nI_add _ _).trans (congrArg nI (by omega))) ?_
    refine g_sld X hXs hbl hbA (4 * j + 2) rfl (by omega) (by omega) h9q dL_law_383 ?_
    have J6 : ∀ (v5 : Bool), v5 = (if q = 0 then false else true) → g_G p l e room_1 s m args below meth c D A 8 (kc + 1) (ks + 6) Q (wX2 x cI cJ cZ C N S Qk Z jC jN jS jQ jZ ++ ([(u, .inl (cJ, 1, .inr (.inl U)))] ++ wM h cI cJ cZ th C N S Qk K P Y)) [(0, .ref b), (1, .ref (x 0)), (2, .ref (h 0)), (3, .ref u), (4, .int (nI (4 * j))), (5, .int (nI (cL1 (N 0) v)))] 392 [.int (bI v5), .int v, .ref (h 0)] := by
      intro v5 ev5
      have hm := m_X7_well l D cI cJ cZ h th C N S Qk K P Y v r hC
      repeat rw [if_neg hc1] at hm
      refine g_st (st' := [.int (bI r), .int v, .ref (h 0)]) (by rw [ev5, hrb]) ?_
      obtain ⟨th7, eth7⟩ : ∃ z : Int32, z = nI (cL1 (N 0) v) := ⟨_, rfl⟩
      refine g_callV X (As := [.int v, .int (bI r)]) (rest := []) hm kM_L_100 kI_yX7_well kS_yX7_well kZ_RX7 kC_yX7_well hV_X7_well rfl rfl rfl 0 rfl (ci := 7) rfl ⟨Nat.le_of_ble_eq_true rfl, Nat.le_of_ble_eq_true rfl⟩ (show _ ≤ 1116 ∧ _ ≤ 10012 by omega) (Nat.le_of_ble_eq_true rfl) dL_law_392 rfl (em_I 72 17 89 0) (em_C (by decide) (Nat.le_of_ble_eq_true rfl) rfl) (em_nd (by decide)) (g_kk1 (w2 := wX2 x cI cJ cZ C N S Qk Z jC jN jS jQ jZ ++ ([(u, .inl (cJ, 1, .inr (.inl U)))] ++ wM h cI cJ cZ th7 C N S Qk K P Y)) (by rw [eth7]; exact (em3 72 17 89 0 (by decide) (Nat.le_of_ble_eq_true rfl) rfl rfl rfl)) ?_)
      refine g_istore X [(6, .int (nI 0)), (0, .ref b), (1, .ref (x 0)), (2, .ref (h 0)), (3, .ref u), (4, .int (nI (4 * j))), (5, .int (nI (cL1 (N 0) v)))] dL_law_395 (Nat.le_of_ble_eq_true rfl) rfl ?_
      refine g_aload_n X 3 dL_law_397 rfl rfl ?_
      refine g_callV X (As := []) (rest := []) (m_X7_thrown l D cI cJ cZ h th7 C N S Qk K P Y) kM_L_86 kI_yX7_thrown kS_yX7_thrown kZ_RX7 kC_yX7_thrown hV_X7_thrown rfl rfl rfl 0 rfl (ci := 7) rfl ⟨Nat.le_of_ble_eq_true rfl, Nat.le_of_ble_eq_true rfl⟩ (show _ ≤ 1116 ∧ _ ≤ 10012 by omega) (Nat.le_of_ble_eq_true rfl) dL_law_398 rfl (em_I 72 17 89 0) (em_C (by decide) (Nat.le_of_ble_eq_true rfl) rfl) (em_nd (by decide)) (g_kk1 (w2 := wX2 x cI cJ cZ C N S Qk Z jC jN jS jQ jZ ++ ([(u, .inl (cJ, 1, .inr (.inl U)))] ++ wM h cI cJ cZ th7 C N S Qk K P Y)) (em3 72 17 89 0 (by decide) (Nat.le_of_ble_eq_true rfl) rfl rfl rfl) ?_)
      refine g_iload X 6 dL_law_401 rfl ?_
      refine g_icmp_eq X (tgt := 408) dL_law_403 (by decide) (fun h8 => ?_) (fun h8 => absurd eth7 h8)
      refine g_iload X 6 dL_law_408 rfl ?_
      refine g_if_ne X (tgt := 425) dL_law_410 (by decide) (fun h9 => ?_) (fun h9 => absurd h9 (nI_n0 (cL1_3 _ _) hc1))
      refine g_goto X (tgt := 1363) dL_law_425 (by decide) ?_
      refine g_lv [(0, .ref b), (1, .ref (x 0)), (2, .ref (h 0)), (3, .ref u), (4, .int (nI (4 * j)))] [1, 2, 3, 4, 5] rfl ?_
      exact kk C N S Qk Z jC jN jS jQ jZ U th7 K P Y mo (by (try rw [eth7]); (try rw [ev5]); (try rw [ev2]); exact hLI)
    refine g_if_eq X (tgt := 391) dL_law_384 (by decide) (fun h4 => ?_) (fun h4 => ?_)
    · --
      refine g_iconst X (v := nI 0) dL_law_391 (by decide +kernel) ?_
      refine g_lv _ [1, 2, 3, 4, 5, 0] rfl ?_
      exact J6 _ (by rw [if_pos (c := q = 0) h4])
    · --
      refine g_iconst X (v := nI 1) dL_law_387 (by decide +kernel) ?_
      refine g_goto X (tgt := 392) dL_law_388 (by decide) ?_
      refine g_lv _ [1, 2, 3, 4, 5, 0] rfl ?_
      exact J6 _ (by rw [if_neg (c := q = 0) h4])
  refine g_if_eq X (tgt := 364) dL_law_357 (by decide) (fun h1 => ?_) (fun h1 => ?_)
  · --
    refine g_iconst X (v := nI 0) dL_law_364 (by decide +kernel) ?_
    exact J3 _ (by rw [if_pos (c := q = 0) h1])
  · --
    refine g_iconst X (v := nI 1) dL_law_360 (by decide +kernel) ?_
    refine g_goto X (tgt := 365) dL_law_361 (by decide) ?_
    exact J3 _ (by rw [if_neg (c := q = 0) h1])
