
theorem hV_X6_would : yX6_would.cls = RX6 ∧ yX6_would.cls ≠ "java/lang/invoke/MethodHandle" ∧ yX6_would.cls ≠ "java/lang/invoke/VarHandle" ∧ (parseMethodDescriptor yX6_would.desc).map (fun d => d.parameters.length) = some 3 := by decide +kernel
abbrev rm_X6_would : Room := { frames := 6, cells := 0, slots := 0, locals := 138 }
set_option maxRecDepth 100000 in
set_option maxHeartbeats 4000000 in
theorem m_X6_would (l : Launch) (D : va_G) (cI cJ cZ : ClassId) (x : Nat → Nat) (C : Cf) (N : Nat → Nat) (S : St) (Qk : Nat → Int64) (Z : St) (jC : Cf) (jN : Nat → Nat) (jS : St) (jQ : Nat → Int64) (jZ : St) (v q r : Int32) (hC : Cok C N) (hR : Rok C) (hX : Xok C) (hI : ∀ i, i ≤ 24 → MonOk C N (mnS C N S i)) (h3 : ∀ w, w < N 0 → C 3 w = 0 ∨ C 3 w = 1) (hZ : ZB jC jN jS) (hY : ZB C N S) (hn0 : jN 0 ≤ N 0) (hn1 : jN 1 ≤ N 1) (hn2 : jN 2 ≤ N 2) (hc0 : cD3 v q r = 0) : g_Ct l D cI cJ cZ yX6_would cX6_would 5 (some .long) rm_X6_would 0 0 [.ref (x 0), .int v, .int q, .int r] (wX2 x cI cJ cZ C N S Qk Z jC jN jS jQ jZ) (g_eq (some (.long (tellG (mnS C N S (nN v)) (nN q) (nN r)))) (wX2 x cI cJ cZ C N S Qk Z C N (mnS C N S (nN v)) (mnQ C N S (cpQ Qk jQ (if 60 < qN S then 60 else qN S)) (nN v)) (mnZ C N S jZ (nN v)))) := by
  refine g_body RX6 [(0, .ref (x 0)), (1, .int v), (2, .int q), (3, .int r)] kH_X6 rfl (Nat.le_of_ble_eq_true rfl) rfl ?_
  intro p e s m args below meth c A X hr hlk hmn Q hQ
  have hk0c := cD3_0 hc0
  obtain ⟨h0a, h0b, h0c⟩ := hk0c
  obtain ⟨hvn, evn⟩ := inB_k (by decide) h0b
  obtain ⟨hqn, eqn⟩ := inB_k (by decide) h0a
  obtain ⟨hrn, ern⟩ := inB_k (by decide) h0c
  obtain ⟨_, _, _, _, _, _, hqo0, hB0⟩ := hI 0 (by omega)
  have hq0 : S 14 0 = lN (qN S) ∧ qN S ≤ 900000 := ⟨hqo0.1, Nat.le_trans hqo0.2 (by decide)⟩
  refine g_iload_n X 2 dX6_would_0 rfl rfl ?_
  refine g_bipush X (v := nI 12) dX6_would_1 (by decide +kernel) ?_
  refine g_callS X (As := [.int q, .int (nI 12)]) (rest := []) (m_X6_requireIndex l D cI cJ cZ q 12 (nI 11) (by decide +kernel) (by omega) (by assumption)) kM_X6_19 kT_yX6_requireIndex kZ_RX6 kC_yX6_requireIndex hV_X6_requireIndex rfl rfl rfl ⟨Nat.le_of_ble_eq_true rfl, Nat.le_of_ble_eq_true rfl⟩ ⟨Nat.le_of_ble_eq_true rfl, Nat.le_of_ble_eq_true rfl⟩ (Nat.le_of_ble_eq_true rfl) dX6_would_3 rfl [] rfl (by decide +kernel) (g_kk1 (w2 := wX2 x cI cJ cZ C N S Qk Z jC jN jS jQ jZ) em0 ?_)
  refine g_iload_n X 1 dX6_would_6 rfl rfl ?_
  refine g_iconst X (v := nI 0) dX6_would_7 (by decide +kernel) ?_
  refine g_bipush X (v := nI 24) dX6_would_8 (by decide +kernel) ?_
  refine g_callS X (As := [.int v, .int (nI 0), .int (nI 24)]) (rest := []) (m_X6_requireRange l D cI cJ cZ v (nI 0) (nI 24) (by assumption)) kM_X6_24 kT_yX6_requireRange kZ_RX6 kC_yX6_requireRange hV_X6_requireRange rfl rfl rfl ⟨Nat.le_of_ble_eq_true rfl, Nat.le_of_ble_eq_true rfl⟩ ⟨Nat.le_of_ble_eq_true rfl, Nat.le_of_ble_eq_true rfl⟩ (Nat.le_of_ble_eq_true rfl) dX6_would_10 rfl [] rfl (by decide +kernel) (g_kk1 (w2 := wX2 x cI cJ cZ C N S Qk Z jC jN jS jQ jZ) em0 ?_)
  refine g_iload_n X 3 dX6_would_13 rfl rfl ?_
  refine g_iconst X (v := nI 0) dX6_would_14 (by decide +kernel) ?_
  refine g_iconst X (v := nI 5) dX6_would_15 (by decide +kernel) ?_
  refine g_callS X (As := [.int r, .int (nI 0), .int (nI 5)]) (rest := []) (m_X6_requireRange l D cI cJ cZ r (nI 0) (nI 5) (by assumption)) kM_X6_24 kT_yX6_requireRange kZ_RX6 kC_yX6_requireRange hV_X6_requireRange rfl rfl rfl ⟨Nat.le_of_ble_eq_true rfl, Nat.le_of_ble_eq_true rfl⟩ ⟨Nat.le_of_ble_eq_true rfl, Nat.le_of_ble_eq_true rfl⟩ (Nat.le_of_ble_eq_true rfl) dX6_would_16 rfl [] rfl (by decide +kernel) (g_kk1 (w2 := wX2 x cI cJ cZ C N S Qk Z jC jN jS jQ jZ) em0 ?_)
  refine g_aload_n X 0 dX6_would_19 rfl rfl ?_
  refine g_get X (C := RX6) (T := TX6) (N := 2) (v := .ref (x 36)) inlX6 0 rfl rfl 1 (Nat.le_of_ble_eq_true rfl) kF_X6_16 rfl dX6_would_20 ?_
  refine g_aload_n X 0 dX6_would_23 rfl rfl ?_
  refine g_get X (C := RX6) (T := TX6) (N := 2) (v := .ref (x 1)) inlX6 0 rfl rfl 0 (Nat.le_of_ble_eq_true rfl) kF_X6_10 rfl dX6_would_24 ?_
  obtain ⟨lC1, elC1⟩ : ∃ z : Cf, z = C := ⟨_, rfl⟩
  obtain ⟨lN2, elN2⟩ : ∃ z : Nat → Nat, z = N := ⟨_, rfl⟩
  obtain ⟨lS3, elS3⟩ : ∃ z : St, z = S := ⟨_, rfl⟩
  obtain ⟨lQk4, elQk4⟩ : ∃ z : Nat → Int64, z = cpQ Qk jQ (if 60 < qN S then 60 else qN S) := ⟨_, rfl⟩
  refine g_callV X (As := [.ref (x 1)]) (rest := []) (m_X0_copy l D cI cJ cZ (fun i => x (36 + i)) (fun i => x (1 + i)) jC jN jS jQ jZ C N S Qk Z hZ hY hn0 hn1 hn2 hC h3 hB0 hq0) kM_X6_121 kI_yX0_copy kS_yX0_copy kZ_RX0 kC_yX0_copy hV_X0_copy rfl rfl rfl 0 rfl (ci := 0) rfl ⟨Nat.le_of_ble_eq_true rfl, Nat.le_of_ble_eq_true rfl⟩ ⟨Nat.le_of_ble_eq_true rfl, Nat.le_of_ble_eq_true rfl⟩ (Nat.le_of_ble_eq_true rfl) dX6_would_27 rfl [36, 37, 38, 39, 40, 41, 42, 43, 44, 45, 46, 47, 48, 49, 50, 51, 52, 53, 54, 55, 56, 57, 58, 59, 60, 61, 62, 63, 64, 65, 66, 67, 68, 69, 70, 1, 2, 3, 4, 5, 6, 7, 8, 9, 10, 11, 12, 13, 14, 15, 16, 17, 18, 19, 20, 21, 22, 23, 24, 25, 26, 27, 28, 29, 30, 31, 32, 33, 34, 35] rfl (by decide +kernel) (g_kk1 (w2 := wX2 x cI cJ cZ C N S Qk Z lC1 lN2 lS3 lQk4 jZ) (by rw [elQk4]; rw [elS3]; rw [elN2]; rw [elC1]; exact ⟨[36, 37, 38, 39, 40, 41, 42, 43, 44, 45, 46, 47, 48, 49, 50, 51, 52, 53, 54, 55, 56, 57, 58, 59, 60, 61, 62, 63, 64, 65, 66, 67, 68, 69, 70, 1, 2, 3, 4, 5, 6, 7, 8, 9, 10, 11, 12, 13, 14, 15, 16, 17, 18, 19, 20, 21, 22, 23, 24, 25, 26, 27, 28, 29, 30, 31, 32, 33, 34, 35], [0], [0, 36, 37, 38, 39, 40, 41, 42, 43, 44, 45, 46, 47, 48, 49, 50, 51, 52, 53, 54, 55, 56, 57, 58, 59, 60, 61, 62, 63, 64, 65, 66, 67, 68, 69, 70, 1, 2, 3, 4, 5, 6, 7, 8, 9, 10, 11, 12, 13, 14, 15, 16, 17, 18, 19, 20, 21, 22, 23, 24, 25, 26, 27, 28, 29, 30, 31, 32, 33, 34, 35], ([0].filterMap fun i => (wX2 x cI cJ cZ C N S Qk Z jC jN jS jQ jZ)[i]?), rfl, by decide +kernel, rfl, by decide +kernel, by decide +kernel, rfl, by decide +kernel⟩) ?_)
  replace elC1 := elC1.symm
  subst elC1
  replace elN2 := elN2.symm
  subst elN2
  replace elS3 := elS3.symm
  subst elS3
  refine g_lvq (lv' := [(0, .ref (x 0)), (1, .int (nI (nN v))), (2, .int (nI (nN q))), (3, .int (nI (nN r)))]) (by rw [← evn]; rw [← eqn]; rw [← ern]; first | done | rfl) ?_
  refine g_iconst X (v := nI 0) dX6_would_30 (by decide +kernel) ?_
  refine g_istore X [(4, .int (nI 0)), (0, .ref (x 0)), (1, .int (nI (nN v))), (2, .int (nI (nN q))), (3, .int (nI (nN r)))] dX6_would_31 (Nat.le_of_ble_eq_true rfl) rfl ?_
  have L5 : ∀ (n7 i6 : Nat) (lS8 : St) (lQk9 : Nat → Int64) (lX10 : St), i6 + n7 = (nN v) → lS8 = mnS C N S i6 → lQk9 = mnQ C N S lQk4 i6 → lX10 = mnZ C N S jZ i6 → g_G p l e rm_X6_would s m args below meth c D A 5 0 0 Q (wX2 x cI cJ cZ C N S Qk Z C N lS8 lQk9 lX10) [(0, .ref (x 0)), (1, .int (nI (nN v))), (2, .int (nI (nN q))), (3, .int (nI (nN r))), (4, .int (nI i6))] 33 [] := by
    intro n7
    induction n7 with
    | zero =>
      intro i6 lS8 lQk9 lX10 hi11 elS8 elQk9 elX10
      obtain rfl : i6 = (nN v) := by omega
      refine g_iload X 4 dX6_would_33 rfl ?_
      refine g_iload_n X 1 dX6_would_35 rfl rfl ?_
      refine g_icN_ge X (a := (nN v)) (b := nN v) (tgt := 52) (by omega) (by omega) dX6_would_36 (by decide) (fun h12 => ?_) (fun h12 => absurd h12 (by omega))
      refine g_aload_n X 0 dX6_would_52 rfl rfl ?_
      refine g_get X (C := RX6) (T := TX6) (N := 2) (v := .ref (x 36)) inlX6 0 rfl rfl 1 (Nat.le_of_ble_eq_true rfl) kF_X6_16 rfl dX6_would_53 ?_
      refine g_get X (C := RX0) (T := TX0) (N := 11) (v := .ref (x 37)) inlX0 36 rfl rfl 2 (Nat.le_of_ble_eq_true rfl) kF_X6_36 rfl dX6_would_56 ?_
      refine g_iload_n X 2 dX6_would_59 rfl rfl ?_
      refine g_iload_n X 3 dX6_would_60 rfl rfl ?_
      refine g_callV X (As := [.int (nI (nN q)), .int (nI (nN r))]) (rest := []) (m_X1_tell l D cI cJ cZ (fun i => x (37 + i)) C lS8 lX10 (nN q) (nN r) hqn hrn (by rw [elS8]; exact (hI _ (by omega)).wok.ne hqn)) kM_X6_117 kI_yX1_tell kS_yX1_tell kZ_RX1 kC_yX1_tell hV_X1_tell rfl rfl rfl 0 rfl (ci := 1) rfl ⟨Nat.le_of_ble_eq_true rfl, Nat.le_of_ble_eq_true rfl⟩ ⟨Nat.le_of_ble_eq_true rfl, Nat.le_of_ble_eq_true rfl⟩ (Nat.le_of_ble_eq_true rfl) dX6_would_61 rfl (em_I 37 10 47 0) (em_C (by decide) (Nat.le_of_ble_eq_true rfl) rfl) (em_nd (by decide)) (g_kk1 (w2 := wX2 x cI cJ cZ C N S Qk Z C N lS8 lQk9 lX10) (em3 37 10 47 0 (by decide) (Nat.le_of_ble_eq_true rfl) rfl rfl rfl) ?_)
      refine g_lret X hr hlk hQ dX6_would_64 ?_
      show g_eq _ _ _ _
      try rw [elX10]
      try rw [elQk9]
      try rw [elS8]
      try rw [elQk4]
      exact ⟨rfl, rfl⟩
    | succ n7 ihL5 =>
      intro i6 lS8 lQk9 lX10 hi11 elS8 elQk9 elX10
      have hlti6 : i6 < (nN v) := by omega
      obtain ⟨k, hWk, hk0, hk1, hWe, hmo, hqo, hBo⟩ := hI i6 (by omega)
      rw [← elS8] at hWk hWe hmo hqo hBo
      refine g_iload X 4 dX6_would_33 rfl ?_
      refine g_iload_n X 1 dX6_would_35 rfl rfl ?_
      refine g_icN_ge X (a := i6) (b := nN v) (tgt := 52) (by omega) (by omega) dX6_would_36 (by decide) (fun h13 => absurd h13 (by omega)) (fun h13 => ?_)
      refine g_aload_n X 0 dX6_would_39 rfl rfl ?_
      refine g_get X (C := RX6) (T := TX6) (N := 2) (v := .ref (x 36)) inlX6 0 rfl rfl 1 (Nat.le_of_ble_eq_true rfl) kF_X6_16 rfl dX6_would_40 ?_
      obtain ⟨lS14, elS14⟩ : ∃ z : St, z = monS C N lS8 := ⟨_, rfl⟩
      obtain ⟨lQk15, elQk15⟩ : ∃ z : Nat → Int64, z = monQ C N lS8 lQk9 := ⟨_, rfl⟩
      obtain ⟨lX16, elX16⟩ : ∃ z : St, z = monZ C N lS8 lX10 := ⟨_, rfl⟩
      refine g_callV X (As := []) (rest := []) (m_X0_passMonth l D cI cJ cZ (fun i => x (36 + i)) C N lS8 lQk9 lX10 k hC hR hWk hk0 hk1 hWe hmo hqo hX) kM_X6_114 kI_yX0_passMonth kS_yX0_passMonth kZ_RX0 kC_yX0_passMonth hV_X0_passMonth rfl rfl rfl 0 rfl (ci := 0) rfl ⟨Nat.le_of_ble_eq_true rfl, Nat.le_of_ble_eq_true rfl⟩ ⟨Nat.le_of_ble_eq_true rfl, Nat.le_of_ble_eq_true rfl⟩ (Nat.le_of_ble_eq_true rfl) dX6_would_43 rfl (em_I 36 35 71 0) (em_C (by decide) (Nat.le_of_ble_eq_true rfl) rfl) (em_nd (by decide)) (g_kk1 (w2 := wX2 x cI cJ cZ C N S Qk Z C N lS14 lQk15 lX16) (by rw [elX16]; rw [elQk15]; rw [elS14]; exact (em3 36 35 71 0 (by decide) (Nat.le_of_ble_eq_true rfl) rfl rfl rfl)) ?_)
      refine g_iinc X [(4, .int (nI (i6 + 1))), (0, .ref (x 0)), (1, .int (nI (nN v))), (2, .int (nI (nN q))), (3, .int (nI (nN r)))] (q := 4) (v := nI (i6 + 1)) dX6_would_46 rfl ((congrArg (fun z => nI (i6) + z) (show Int32.ofInt 1 = nI 1 by decide +kernel)).trans ((nI_add _ _).trans (congrArg nI (by omega)))) (Nat.le_of_ble_eq_true rfl) rfl ?_
      refine g_goto X (tgt := 33) dX6_would_49 (by decide) ?_
      refine g_lv _ [1, 2, 3, 4, 0] rfl ?_
      exact ihL5 (i6 + 1) _ _ _ (by omega) (by (try rw [elX16]); (try rw [elQk15]); (try rw [elS14]); (try rw [elX10]); (try rw [elQk9]); (try rw [elS8]); first | done | (rw [mnS_s])) (by (try rw [elX16]); (try rw [elQk15]); (try rw [elS14]); (try rw [elX10]); (try rw [elQk9]); (try rw [elS8]); first | done | (rw [mnQ_s])) (by (try rw [elX16]); (try rw [elQk15]); (try rw [elS14]); (try rw [elX10]); (try rw [elQk9]); (try rw [elS8]); first | done | (rw [mnZ_s]))
  refine g_lv _ [1, 2, 3, 4, 0] rfl ?_
  exact L5 ((nN v)) 0 _ _ _ (by omega) (mnS_0 _ _ _).symm (mnQ_0 _ _ _ _).symm (mnZ_0 _ _ _ _).symm
