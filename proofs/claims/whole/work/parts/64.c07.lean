set_option maxRecDepth 100000 in
set_option maxHeartbeats 4000000 in
theorem n_law_spring (l : Launch) (hl0 : l.stackTraces = false) (D : va_G) (cI cJ cZ : ClassId) (B0 : Nat) (x h : Nat → Nat) (u b L j : Nat) (xs : Nat → Int32) {p : Program} {e : Env} {s : State} {m : MethodId} {args : Array Value} {below : List Frame} {meth : Method} {c : Code} {A : Nat → Prop} (X : g_Cx p s m args c D A 8 cL_law RL cI cJ cZ) (Yx : g_Xx B0 A s) (hXs : va_X b L xs s s.heap) (hbl : b < s.heap.size) (hbA : ¬ A b) (hx : ∀ i, i < 71 → B0 ≤ x i) (hu : B0 ≤ u) (hj : 4 * j + 4 ≤ L) (hL : L ≤ 2048) {Q : State → Prop} (kc ks : Nat) (hkc : kc + 1 ≤ 1116) (hks : ks + 6 ≤ 10012) (C : Cf) (N : Nat → Nat) (S : St) (Qk : Nat → Int64) (Z : St) (jC : Cf) (jN : Nat → Nat) (jS : St) (jQ : Nat → Int64) (jZ : St) (U : Nat → Int64) (th : Int32) (K P : Nat → Int64) (Y : St) (mo : Nat) (hLI : LI C N S jC jN jS mo) (v : Int32) (q : Int32) (r : Int32) (h9v : xs (4 * j + 1) = v) (h9q : xs (4 * j + 2) = q) (h9r : xs (4 * j + 3) = r) (hc0 : cS3 (N 2) v q r = 0) (kk : ∀ (C : Cf) (N : Nat → Nat) (S : St) (Qk : Nat → Int64) (Z : St) (jC : Cf) (jN : Nat → Nat) (jS : St) (jQ : Nat → Int64) (jZ : St) (U : Nat → Int64) (th : Int32) (K P : Nat → Int64) (Y9 : St) (mo : Nat), LI C N S jC jN jS mo → g_G p l e room_1 s m args below meth c D A 8 (kc + 1) (ks + 6) Q (wX2 x cI cJ cZ C N S Qk Z jC jN jS jQ jZ ++ ([(u, .inl (cJ, 1, .inr (.inl U)))] ++ wM h cI cJ cZ th C N S Qk K P Y9)) [(0, .ref b), (1, .ref (x 0)), (2, .ref (h 0)), (3, .ref u), (4, .int (nI (4 * j)))] 1363 []) : g_G p l e room_1 s m args below meth c D A 8 kc ks Q (wX2 x cI cJ cZ C N S Qk Z jC jN jS jQ jZ ++ ([(u, .inl (cJ, 1, .inr (.inl U)))] ++ wM h cI cJ cZ th C N S Qk K P Y)) [(0, .ref b), (1, .ref (x 0)), (2, .ref (h 0)), (3, .ref u), (4, .int (nI (4 * j)))] 620 [] := by
  have hIv := hLI.1
  have hm6 := hLI.2.1
  obtain ⟨hC, hR, hX, h3, hY, hWk9, hE9, h13, hq9, hB9, h10⟩ := hLI.1
  have hM : 0 ≤ (S 13 0).toInt ∧ (S 13 0).toInt ≤ 1000 := hE9.2.2
  have hW : Wok S := hWk9.ok (by omega)
  have hq : S 14 0 = lN (qN S) ∧ qN S ≤ 900000 := ⟨hq9.1, by omega⟩
  have hI := hIv.mons (by omega)
  have hZ := hLI.2.2.1
  have hn0 := hLI.2.2.2.1
  have hn1 := hLI.2.2.2.2.1
  have hn2 := hLI.2.2.2.2.2.1
  refine g_aload_n X 1 dL_law_620 rfl rfl ?_
  refine g_aload_n X 0 dL_law_621 rfl rfl ?_
  refine g_iload X 4 dL_law_622 rfl ?_
  refine g_iconst X (v := nI 1) dL_law_624 (by decide +kernel) ?_
  refine g_iadd X (v := nI (4 * j + 1)) dL_law_625 ((nI_add _ _).trans (congrArg nI (by omega))) ?_
  refine g_sld X hXs hbl hbA (4 * j + 1) rfl (by omega) (by omega) h9v dL_law_626 ?_
  refine g_aload_n X 0 dL_law_627 rfl rfl ?_
  refine g_iload X 4 dL_law_628 rfl ?_
  refine g_iconst X (v := nI 2) dL_law_630 (by decide +kernel) ?_
  refine g_iadd X (v := nI (4 * j + 2)) dL_law_631 ((nI_add _ _).trans (congrArg nI (by omega))) ?_
  refine g_sld X hXs hbl hbA (4 * j + 2) rfl (by omega) (by omega) h9q dL_law_632 ?_
  refine g_aload_n X 0 dL_law_633 rfl rfl ?_
  refine g_iload X 4 dL_law_634 rfl ?_
  refine g_iconst X (v := nI 3) dL_law_636 (by decide +kernel) ?_
  refine g_iadd X (v := nI (4 * j + 3)) dL_law_637 ((nI_add _ _).trans (congrArg nI (by omega))) ?_
  refine g_sld X hXs hbl hbA (4 * j + 3) rfl (by omega) (by omega) h9r dL_law_638 ?_
  refine g_aload_n X 3 dL_law_639 rfl rfl ?_
  obtain ⟨C1, eC1⟩ : ∃ z : Cf, z = (c2 (c2 (c2 C 7 (N 2) v) 8 (N 2) q) 9 (N 2) r) := ⟨_, rfl⟩
  obtain ⟨N2, eN2⟩ : ∃ z : Nat → Nat, z = (n2 N 2 (N 2 + 1)) := ⟨_, rfl⟩
  obtain ⟨U3, eU3⟩ : ∃ z : Nat → Int64, z = vp_updL U 0 ((nI (N 2)).toInt64) := ⟨_, rfl⟩
  refine g_callSW X Yx (As := [.ref (x 0), .int v, .int q, .int r, .ref u]) (rest := []) (m_L_spring l hl0 D cI cJ cZ B0 x (x 36) C N S Qk Z u U v q r hC hc0 (bw_X hx hu)) kM_L_111 kT_yL_spring kZ_RL kW_yL_spring hV_L_spring.2 rfl rfl rfl ⟨Nat.le_of_ble_eq_true rfl, Nat.le_of_ble_eq_true rfl⟩ (show _ ≤ 1116 ∧ _ ≤ 10012 by omega) (Nat.le_of_ble_eq_true rfl) dL_law_640 rfl (em_I 0 36 71 1) (em_C (by decide) (Nat.le_of_ble_eq_true rfl) rfl) (em_nd (by decide)) (g_kk1 (w2 := wX2 x cI cJ cZ C1 N2 S Qk Z jC jN jS jQ jZ ++ ([(u, .inl (cJ, 1, .inr (.inl U3)))] ++ wM h cI cJ cZ th C N S Qk K P Y)) (by rw [eU3]; rw [eN2]; rw [eC1]; exact (em3 0 36 71 1 (by decide) (Nat.le_of_ble_eq_true rfl) rfl rfl rfl)) ?_)
  refine g_istore X [(5, .int (nI 0)), (0, .ref b), (1, .ref (x 0)), (2, .ref (h 0)), (3, .ref u), (4, .int (nI (4 * j)))] dL_law_643 (Nat.le_of_ble_eq_true rfl) rfl ?_
  refine g_aload_n X 3 dL_law_645 rfl rfl ?_
  refine g_aload_n X 1 dL_law_646 rfl rfl ?_
  refine g_iload X 5 dL_law_647 rfl ?_
  refine g_iconst X (v := nI 1) dL_law_649 (by decide +kernel) ?_
  refine g_iadd X (v := nI (4 * j + 1)) dL_law_650 ((nI_add _ _).trans (congrArg nI (by omega))) ?_
  refine g_sld X hXs hbl hbA (4 * j + 1) rfl (by omega) (by omega) h9v dL_law_651 ?_
  refine g_aload_n X 1 dL_law_652 rfl rfl ?_
  refine g_iload X 5 dL_law_653 rfl ?_
  refine g_iconst X (v := nI 2) dL_law_655 (by decide +kernel) ?_
  refine g_iadd X (v := nI (4 * j + 2)) dL_law_656 ((nI_add _ _).trans (congrArg nI (by omega))) ?_
  refine g_sld X hXs hbl hbA (4 * j + 2) rfl (by omega) (by omega) h9q dL_law_657 ?_
  refine g_aload_n X 1 dL_law_658 rfl rfl ?_
  refine g_iload X 5 dL_law_659 rfl ?_
  refine g_iconst X (v := nI 3) dL_law_661 (by decide +kernel) ?_
  refine g_iadd X (v := nI (4 * j + 3)) dL_law_662 ((nI_add _ _).trans (congrArg nI (by omega))) ?_
  refine g_sld X hXs hbl hbA (4 * j + 3) rfl (by omega) (by omega) h9r dL_law_663 ?_
  have hm := m_X7_spring l D cI cJ cZ h th C N S Qk K P Y v q r hC
  repeat rw [if_pos hc0] at hm
  rw [hc0] at hm
  obtain ⟨th4, eth4⟩ : ∃ z : Int32, z = nI 0 := ⟨_, rfl⟩
  refine g_callV X (As := [.int v, .int q, .int r]) (rest := []) hm kM_L_113 kI_yX7_spring kS_yX7_spring kZ_RX7 kC_yX7_spring hV_X7_spring rfl rfl rfl 0 rfl (ci := 7) rfl ⟨Nat.le_of_ble_eq_true rfl, Nat.le_of_ble_eq_true rfl⟩ (show _ ≤ 1116 ∧ _ ≤ 10012 by omega) (Nat.le_of_ble_eq_true rfl) dL_law_664 rfl (em_I 72 17 89 0) (em_C (by decide) (Nat.le_of_ble_eq_true rfl) rfl) (em_nd (by decide)) (g_kk1 (w2 := wX2 x cI cJ cZ C1 N2 S Qk Z jC jN jS jQ jZ ++ ([(u, .inl (cJ, 1, .inr (.inl U3)))] ++ wM h cI cJ cZ th4 C1 N2 S Qk K P Y)) (by rw [eth4]; rw [eN2]; rw [eC1]; exact (em3 72 17 89 0 (by decide) (Nat.le_of_ble_eq_true rfl) rfl rfl rfl)) ?_)
  refine g_istore X [(6, .int (nI (N 2))), (5, .int (nI 0)), (0, .ref b), (1, .ref (x 0)), (2, .ref (h 0)), (3, .ref u), (4, .int (nI (4 * j)))] dL_law_667 (Nat.le_of_ble_eq_true rfl) rfl ?_
  refine g_aload_n X 4 dL_law_669 rfl rfl ?_
  refine g_callV X (As := []) (rest := []) (m_X7_thrown l D cI cJ cZ h th4 C1 N2 S Qk K P Y) kM_L_86 kI_yX7_thrown kS_yX7_thrown kZ_RX7 kC_yX7_thrown hV_X7_thrown rfl rfl rfl 0 rfl (ci := 7) rfl ⟨Nat.le_of_ble_eq_true rfl, Nat.le_of_ble_eq_true rfl⟩ (show _ ≤ 1116 ∧ _ ≤ 10012 by omega) (Nat.le_of_ble_eq_true rfl) dL_law_670 rfl (em_I 72 17 89 0) (em_C (by decide) (Nat.le_of_ble_eq_true rfl) rfl) (em_nd (by decide)) (g_kk1 (w2 := wX2 x cI cJ cZ C1 N2 S Qk Z jC jN jS jQ jZ ++ ([(u, .inl (cJ, 1, .inr (.inl U3)))] ++ wM h cI cJ cZ th4 C1 N2 S Qk K P Y)) (em3 72 17 89 0 (by decide) (Nat.le_of_ble_eq_true rfl) rfl rfl rfl) ?_)
  refine g_iload X 1 dL_law_673 rfl ?_
  refine g_icmp_eq X (tgt := 680) dL_law_675 (by decide) (fun h5 => ?_) (fun h5 => absurd eth4 h5)
  refine g_iload X 1 dL_law_680 rfl ?_
  refine g_if_ne X (tgt := 697) dL_law_682 (by decide) (fun h6 => absurd (show nI 0 = 0 by decide) h6) (fun h6 => ?_)
  refine g_aload_n X 5 dL_law_685 rfl rfl ?_
  refine g_iconst X (v := nI 0) dL_law_686 (by decide +kernel) ?_
  refine g_lald X 71 rfl (0) rfl (by omega) (Nat.le_of_ble_eq_true rfl) (v := (nI (N 2)).toInt64) (rfl.trans (by rw [eU3]; exact vpl_same _ _ _)) dL_law_687 ?_
  refine g_iload X 0 dL_law_688 rfl ?_
  refine g_i2l X (v := (nI (N 2)).toInt64) dL_law_690 rfl ?_
  refine g_lj_eq X (tgt := 697) (pc1 := 692) dL_law_691 rfl dL_law_692 (by decide) (fun h7 => ?_) (fun h7 => absurd rfl h7)
  refine g_goto X (tgt := 1363) dL_law_697 (by decide) ?_
  refine g_lv [(0, .ref b), (1, .ref (x 0)), (2, .ref (h 0)), (3, .ref u), (4, .int (nI (4 * j)))] [2, 3, 4, 5, 6] rfl ?_
  refine g_widen (Nat.le_succ _) (Nat.le_add_right _ 6) ?_
  exact kk C1 N2 S Qk Z jC jN jS jQ jZ U3 th4 K P Y mo (by (try rw [eth4]); (try rw [eU3]); (try rw [eN2]); (try rw [eC1]); exact ⟨iv_spring hIv (by have := (cS3_a hc0).2.2.2; have := hC.n2; omega) (cS3_a hc0).1, hLI.2.1, hLI.2.2.1, hLI.2.2.2.1, hLI.2.2.2.2.1, Nat.le_succ_of_le hLI.2.2.2.2.2.1, Hv.mv hLI.2.2.2.2.2.2 (Eq.trans (c2_6 (by decide)) (Eq.trans (c2_6 (by decide)) (c2_6 (by decide)))) rfl rfl rfl⟩)
set_option maxRecDepth 100000 in
set_option maxHeartbeats 4000000 in
theorem n_law_springX (l : Launch) (hl0 : l.stackTraces = false) (D : va_G) (cI cJ cZ : ClassId) (B0 : Nat) (x h : Nat → Nat) (u b L j : Nat) (xs : Nat → Int32) {p : Program} {e : Env} {s : State} {m : MethodId} {args : Array Value} {below : List Frame} {meth : Method} {c : Code} {A : Nat → Prop} (X : g_Cx p s m args c D A 8 cL_law RL cI cJ cZ) (Yx : g_Xx B0 A s) (hXs : va_X b L xs s s.heap) (hbl : b < s.heap.size) (hbA : ¬ A b) (hx : ∀ i, i < 71 → B0 ≤ x i) (hu : B0 ≤ u) (hj : 4 * j + 4 ≤ L) (hL : L ≤ 2048) {Q : State → Prop} (kc ks : Nat) (hkc : kc + 1 ≤ 1116) (hks : ks + 6 ≤ 10012) (C : Cf) (N : Nat → Nat) (S : St) (Qk : Nat → Int64) (Z : St) (jC : Cf) (jN : Nat → Nat) (jS : St) (jQ : Nat → Int64) (jZ : St) (U : Nat → Int64) (th : Int32) (K P : Nat → Int64) (Y : St) (mo : Nat) (hLI : LI C N S jC jN jS mo) (v : Int32) (q : Int32) (r : Int32) (h9v : xs (4 * j + 1) = v) (h9q : xs (4 * j + 2) = q) (h9r : xs (4 * j + 3) = r) (hc1 : ¬ cS3 (N 2) v q r = 0) (kk : ∀ (C : Cf) (N : Nat → Nat) (S : St) (Qk : Nat → Int64) (Z : St) (jC : Cf) (jN : Nat → Nat) (jS : St) (jQ : Nat → Int64) (jZ : St) (U : Nat → Int64) (th : Int32) (K P : Nat → Int64) (Y9 : St) (mo : Nat), LI C N S jC jN jS mo → g_G p l e room_1 s m args below meth c D A 8 (kc + 1) (ks + 6) Q (wX2 x cI cJ cZ C N S Qk Z jC jN jS jQ jZ ++ ([(u, .inl (cJ, 1, .inr (.inl U)))] ++ wM h cI cJ cZ th C N S Qk K P Y9)) [(0, .ref b), (1, .ref (x 0)), (2, .ref (h 0)), (3, .ref u), (4, .int (nI (4 * j)))] 1363 []) : g_G p l e room_1 s m args below meth c D A 8 kc ks Q (wX2 x cI cJ cZ C N S Qk Z jC jN jS jQ jZ ++ ([(u, .inl (cJ, 1, .inr (.inl U)))] ++ wM h cI cJ cZ th C N S Qk K P Y)) [(0, .ref b), (1, .ref (x 0)), (2, .ref (h 0)), (3, .ref u), (4, .int (nI (4 * j)))] 620 [] := by
  have hIv := hLI.1
  have hm6 := hLI.2.1
  obtain ⟨hC, hR, hX, h3, hY, hWk9, hE9, h13, hq9, hB9, h10⟩ := hLI.1
  have hM : 0 ≤ (S 13 0).toInt ∧ (S 13 0).toInt ≤ 1000 := hE9.2.2
  have hW : Wok S := hWk9.ok (by omega)
  have hq : S 14 0 = lN (qN S) ∧ qN S ≤ 900000 := ⟨hq9.1, by omega⟩
  have hI := hIv.mons (by omega)
  have hZ := hLI.2.2.1
  have hn0 := hLI.2.2.2.1
  have hn1 := hLI.2.2.2.2.1
  have hn2 := hLI.2.2.2.2.2.1
  refine g_aload_n X 1 dL_law_620 rfl rfl ?_
  refine g_aload_n X 0 dL_law_621 rfl rfl ?_
  refine g_iload X 4 dL_law_622 rfl ?_
  refine g_iconst X (v := nI 1) dL_law_624 (by decide +kernel) ?_
  refine g_iadd X (v := nI (4 * j + 1)) dL_law_625 ((nI_add _ _).trans (congrArg nI (by omega))) ?_
  refine g_sld X hXs hbl hbA (4 * j + 1) rfl (by omega) (by omega) h9v dL_law_626 ?_
  refine g_aload_n X 0 dL_law_627 rfl rfl ?_
  refine g_iload X 4 dL_law_628 rfl ?_
  refine g_iconst X (v := nI 2) dL_law_630 (by decide +kernel) ?_
  refine g_iadd X (v := nI (4 * j + 2)) dL_law_631 ((nI_add _ _).trans (congrArg nI (by omega))) ?_
  refine g_sld X hXs hbl hbA (4 * j + 2) rfl (by omega) (by omega) h9q dL_law_632 ?_
  refine g_aload_n X 0 dL_law_633 rfl rfl ?_
  refine g_iload X 4 dL_law_634 rfl ?_
  refine g_iconst X (v := nI 3) dL_law_636 (by decide +kernel) ?_
  refine g_iadd X (v := nI (4 * j + 3)) dL_law_637 ((nI_add _ _).trans (congrArg nI (by omega))) ?_
  refine g_sld X hXs hbl hbA (4 * j + 3) rfl (by omega) (by omega) h9r dL_law_638 ?_
  refine g_aload_n X 3 dL_law_639 rfl rfl ?_
  refine g_callSW X Yx (As := [.ref (x 0), .int v, .int q, .int r, .ref u]) (rest := []) (m_L_springX l hl0 D cI cJ cZ B0 x (x 36) C N S Qk Z u U v q r hC hc1 (bw_X hx hu)) kM_L_111 kT_yL_spring kZ_RL kW_yL_spring hV_L_spring.2 rfl rfl rfl ⟨Nat.le_of_ble_eq_true rfl, Nat.le_of_ble_eq_true rfl⟩ (show _ ≤ 1116 ∧ _ ≤ 10012 by omega) (Nat.le_of_ble_eq_true rfl) dL_law_640 rfl (em_I 0 36 71 1) (em_C (by decide) (Nat.le_of_ble_eq_true rfl) rfl) (em_nd (by decide)) (g_kk1 (w2 := wX2 x cI cJ cZ C N S Qk Z jC jN jS jQ jZ ++ ([(u, .inl (cJ, 1, .inr (.inl U)))] ++ wM h cI cJ cZ th C N S Qk K P Y)) (em3 0 36 71 1 (by decide) (Nat.le_of_ble_eq_true rfl) rfl rfl rfl) ?_)
  refine g_istore X [(5, .int (nI (cS3 (N 2) v q r))), (0, .ref b), (1, .ref (x 0)), (2, .ref (h 0)), (3, .ref u), (4, .int (nI (4 * j)))] dL_law_643 (Nat.le_of_ble_eq_true rfl) rfl ?_
  refine g_aload_n X 3 dL_law_645 rfl rfl ?_
  refine g_aload_n X 1 dL_law_646 rfl rfl ?_
  refine g_iload X 5 dL_law_647 rfl ?_
  refine g_iconst X (v := nI 1) dL_law_649 (by decide +kernel) ?_
  refine g_iadd X (v := nI (4 * j + 1)) dL_law_650 ((nI_add _ _).trans (congrArg nI (by omega))) ?_
  refine g_sld X hXs hbl hbA (4 * j + 1) rfl (by omega) (by omega) h9v dL_law_651 ?_
  refine g_aload_n X 1 dL_law_652 rfl rfl ?_
  refine g_iload X 5 dL_law_653 rfl ?_
  refine g_iconst X (v := nI 2) dL_law_655 (by decide +kernel) ?_
  refine g_iadd X (v := nI (4 * j + 2)) dL_law_656 ((nI_add _ _).trans (congrArg nI (by omega))) ?_
  refine g_sld X hXs hbl hbA (4 * j + 2) rfl (by omega) (by omega) h9q dL_law_657 ?_
  refine g_aload_n X 1 dL_law_658 rfl rfl ?_
  refine g_iload X 5 dL_law_659 rfl ?_
  refine g_iconst X (v := nI 3) dL_law_661 (by decide +kernel) ?_
  refine g_iadd X (v := nI (4 * j + 3)) dL_law_662 ((nI_add _ _).trans (congrArg nI (by omega))) ?_
  refine g_sld X hXs hbl hbA (4 * j + 3) rfl (by omega) (by omega) h9r dL_law_663 ?_
  have hm := m_X7_spring l D cI cJ cZ h th C N S Qk K P Y v q r hC
  repeat rw [if_neg hc1] at hm
  obtain ⟨th1, eth1⟩ : ∃ z : Int32, z = nI (cS3 (N 2) v q r) := ⟨_, rfl⟩
  refine g_callV X (As := [.int v, .int q, .int r]) (rest := []) hm kM_L_113 kI_yX7_spring kS_yX7_spring kZ_RX7 kC_yX7_spring hV_X7_spring rfl rfl rfl 0 rfl (ci := 7) rfl ⟨Nat.le_of_ble_eq_true rfl, Nat.le_of_ble_eq_true rfl⟩ (show _ ≤ 1116 ∧ _ ≤ 10012 by omega) (Nat.le_of_ble_eq_true rfl) dL_law_664 rfl (em_I 72 17 89 0) (em_C (by decide) (Nat.le_of_ble_eq_true rfl) rfl) (em_nd (by decide)) (g_kk1 (w2 := wX2 x cI cJ cZ C N S Qk Z jC jN jS jQ jZ ++ ([(u, .inl (cJ, 1, .inr (.inl U)))] ++ wM h cI cJ cZ th1 C N S Qk K P Y)) (by rw [eth1]; exact (em3 72 17 89 0 (by decide) (Nat.le_of_ble_eq_true rfl) rfl rfl rfl)) ?_)
  refine g_istore X [(6, .int (nI 0)), (5, .int (nI (cS3 (N 2) v q r))), (0, .ref b), (1, .ref (x 0)), (2, .ref (h 0)), (3, .ref u), (4, .int (nI (4 * j)))] dL_law_667 (Nat.le_of_ble_eq_true rfl) rfl ?_
  refine g_aload_n X 4 dL_law_669 rfl rfl ?_
  refine g_callV X (As := []) (rest := []) (m_X7_thrown l D cI cJ cZ h th1 C N S Qk K P Y) kM_L_86 kI_yX7_thrown kS_yX7_thrown kZ_RX7 kC_yX7_thrown hV_X7_thrown rfl rfl rfl 0 rfl (ci := 7) rfl ⟨Nat.le_of_ble_eq_true rfl, Nat.le_of_ble_eq_true rfl⟩ (show _ ≤ 1116 ∧ _ ≤ 10012 by omega) (Nat.le_of_ble_eq_true rfl) dL_law_670 rfl (em_I 72 17 89 0) (em_C (by decide) (Nat.le_of_ble_eq_true rfl) rfl) (em_nd (by decide)) (g_kk1 (w2 := wX2 x cI cJ cZ C N S Qk Z jC jN jS jQ jZ ++ ([(u, .inl (cJ, 1, .inr (.inl U)))] ++ wM h cI cJ cZ th1 C N S Qk K P Y)) (em3 72 17 89 0 (by decide) (Nat.le_of_ble_eq_true rfl) rfl rfl rfl) ?_)
  refine g_iload X 1 dL_law_673 rfl ?_
  refine g_icmp_eq X (tgt := 680) dL_law_675 (by decide) (fun h2 => ?_) (fun h2 => absurd eth1 h2)
  refine g_iload X 1 dL_law_680 rfl ?_
  refine g_if_ne X (tgt := 697) dL_law_682 (by decide) (fun h3 => ?_) (fun h3 => absurd h3 (nI_n0 (cS3_3 _ _ _ _) hc1))
  refine g_goto X (tgt := 1363) dL_law_697 (by decide) ?_
  refine g_lv [(0, .ref b), (1, .ref (x 0)), (2, .ref (h 0)), (3, .ref u), (4, .int (nI (4 * j)))] [2, 3, 4, 5, 6] rfl ?_
  exact kk C N S Qk Z jC jN jS jQ jZ U th1 K P Y mo (by (try rw [eth1]); exact hLI)
