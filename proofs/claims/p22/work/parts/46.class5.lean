theorem kp_k {S : St} (h : S 14 0 = lN (qN S) ∧ qN S ≤ 900000) : (if 60 < qN S then 60 else qN S) = kpM S := by
  unfold kpM
  by_cases h6 : 60 ≤ S 14 0
  · have h7 := (q_30 h).mp h6
    rw [if_pos h6]
    split <;> omega
  · have h7 : ¬ 60 ≤ qN S := fun z => h6 ((q_30 h).mpr z)
    rw [if_neg h6, if_neg (by omega)]

theorem hV_X6_ofBlock : yX6_ofBlock.cls = RX6 ∧ yX6_ofBlock.cls ≠ "java/lang/invoke/MethodHandle" ∧ yX6_ofBlock.cls ≠ "java/lang/invoke/VarHandle" ∧ (parseMethodDescriptor yX6_ofBlock.desc).map (fun d => d.parameters.length) = some 2 := by decide +kernel
abbrev rm_X6_ofBlock : Room := { frames := 2, cells := 0, slots := 0, locals := 45 }
set_option maxRecDepth 100000 in
set_option maxHeartbeats 4000000 in
theorem m_X6_ofBlock (l : Launch) (D : va_G) (cI cJ cZ : ClassId) (x : Nat → Nat) (y : Nat) (C : Cf) (N : Nat → Nat) (S : St) (Qk : Nat → Int64) (Z : St) (v q : Int32) (hW : Wok S) (hc0 : cB2 v q 5 = 0) : g_Ct l D cI cJ cZ yX6_ofBlock cX6_ofBlock 3 (some .long) rm_X6_ofBlock 0 0 [.ref (x 0), .int v, .int q] (wX x y cI cJ cZ C N S Qk Z) (g_eq (some (.long (tellG S (nN v) (nN q)))) (wX x y cI cJ cZ C N S Qk Z)) := by
  refine g_body RX6 [(0, .ref (x 0)), (1, .int v), (2, .int q)] kH_X6 rfl (Nat.le_of_ble_eq_true rfl) rfl ?_
  intro p e s m args below meth c A X hr hlk hmn Q hQ
  have hk0 := cB2_0 hc0
  obtain ⟨h0a, h0b⟩ := hk0
  refine g_iload_n X 1 dX6_ofBlock_0 rfl rfl ?_
  refine g_bipush X (v := nI 12) dX6_ofBlock_1 (by decide +kernel) ?_
  refine g_callS X (As := [.int v, .int (nI 12)]) (rest := []) (m_X6_requireIndex l D cI cJ cZ v 12 (nI 11) (by decide +kernel) (by omega) (by assumption)) kM_X6_19 kT_yX6_requireIndex kZ_RX6 kC_yX6_requireIndex hV_X6_requireIndex rfl rfl rfl ⟨Nat.le_of_ble_eq_true rfl, Nat.le_of_ble_eq_true rfl⟩ ⟨Nat.le_of_ble_eq_true rfl, Nat.le_of_ble_eq_true rfl⟩ (Nat.le_of_ble_eq_true rfl) dX6_ofBlock_3 rfl [] rfl (by decide +kernel) (g_kk1 (w2 := wX x y cI cJ cZ C N S Qk Z) em0 ?_)
  refine g_iload_n X 2 dX6_ofBlock_6 rfl rfl ?_
  refine g_iconst X (v := nI 0) dX6_ofBlock_7 (by decide +kernel) ?_
  refine g_iconst X (v := nI 5) dX6_ofBlock_8 (by decide +kernel) ?_
  refine g_callS X (As := [.int q, .int (nI 0), .int (nI 5)]) (rest := []) (m_X6_requireRange l D cI cJ cZ q (nI 0) (nI 5) (by assumption)) kM_X6_24 kT_yX6_requireRange kZ_RX6 kC_yX6_requireRange hV_X6_requireRange rfl rfl rfl ⟨Nat.le_of_ble_eq_true rfl, Nat.le_of_ble_eq_true rfl⟩ ⟨Nat.le_of_ble_eq_true rfl, Nat.le_of_ble_eq_true rfl⟩ (Nat.le_of_ble_eq_true rfl) dX6_ofBlock_9 rfl [] rfl (by decide +kernel) (g_kk1 (w2 := wX x y cI cJ cZ C N S Qk Z) em0 ?_)
  obtain ⟨hvn, evn⟩ := inB_k (v := v) (n := 11) (by decide) (by assumption)
  obtain ⟨hqn, eqn⟩ := inB_k (v := q) (n := 5) (by decide) (by assumption)
  refine g_lvq (lv' := [(0, .ref (x 0)), (1, .int (nI (nN v))), (2, .int (nI (nN q)))]) (by rw [← evn]; rw [← eqn]; first | done | rfl) ?_
  refine g_aload_n X 0 dX6_ofBlock_12 rfl rfl ?_
  refine g_get X (C := RX6) (T := TX6) (N := 2) (v := .ref (x 1)) inlX6 0 rfl rfl 0 (Nat.le_of_ble_eq_true rfl) kF_X6_10 rfl dX6_ofBlock_13 ?_
  refine g_get X (C := RX0) (T := TX0) (N := 11) (v := .ref (x 2)) inlX0 1 rfl rfl 2 (Nat.le_of_ble_eq_true rfl) kF_X6_36 rfl dX6_ofBlock_16 ?_
  refine g_iload_n X 1 dX6_ofBlock_19 rfl rfl ?_
  refine g_iload_n X 2 dX6_ofBlock_20 rfl rfl ?_
  refine g_callV X (As := [.int (nI (nN v)), .int (nI (nN q))]) (rest := []) (m_X1_tell l D cI cJ cZ (fun i => x (2 + i)) C S Z (nN v) (nN q) hvn hqn (hW.ne hvn)) kM_X6_117 kI_yX1_tell kS_yX1_tell kZ_RX1 kC_yX1_tell hV_X1_tell rfl rfl rfl 0 rfl (ci := 1) rfl ⟨Nat.le_of_ble_eq_true rfl, Nat.le_of_ble_eq_true rfl⟩ ⟨Nat.le_of_ble_eq_true rfl, Nat.le_of_ble_eq_true rfl⟩ (Nat.le_of_ble_eq_true rfl) dX6_ofBlock_21 rfl (em_I 2 10 12 0) (em_C (by decide) (Nat.le_of_ble_eq_true rfl) rfl) (em_nd (by decide)) (g_kk1 (w2 := wX x y cI cJ cZ C N S Qk Z) (em3 2 10 12 0 (by decide) (Nat.le_of_ble_eq_true rfl) rfl rfl rfl) ?_)
  refine g_lret X hr hlk hQ dX6_ofBlock_24 ?_
  show g_eq _ _ _ _
  exact ⟨rfl, rfl⟩
abbrev rm_X6_ofBlockX : Room := { frames := 8, cells := 1, slots := 6, locals := 124 }
set_option maxRecDepth 100000 in
set_option maxHeartbeats 4000000 in
theorem m_X6_ofBlockX (l : Launch) (hl0 : l.stackTraces = false) (D : va_G) (cI cJ cZ : ClassId) (B0 : Nat) (x : Nat → Nat) (y : Nat) (C : Cf) (N : Nat → Nat) (S : St) (Qk : Nat → Int64) (Z : St) (v q : Int32) (hW : Wok S) (hc1 : ¬ cB2 v q 5 = 0) (hB : g_Bw B0 (wX x y cI cJ cZ C N S Qk Z)) : g_CtX l D cI cJ cZ B0 yX6_ofBlock cX6_ofBlock 3 (some .long) rm_X6_ofBlockX 1 6 [.ref (x 0), .int v, .int q] (wX x y cI cJ cZ C N S Qk Z) (fun _ _ => False) (fun E w => E = eA (cB2 v q 5) ∧ w = wX x y cI cJ cZ C N S Qk Z) := by
  refine g_bodyX RX6 [(0, .ref (x 0)), (1, .int v), (2, .int q)] kH_X6 rfl (Nat.le_of_ble_eq_true rfl) rfl hB ?_
  intro p e s m args below meth c A X Y hT hr hlk hmn Q hQ
  refine g_iload_n X 1 dX6_ofBlock_0 rfl rfl ?_
  refine g_bipush X (v := nI 12) dX6_ofBlock_1 (by decide +kernel) ?_
  by_cases hok1 : inB v (nI 0) (nI 11) = true
  · --
    refine g_callS X (As := [.int v, .int (nI 12)]) (rest := []) (m_X6_requireIndex l D cI cJ cZ v 12 (nI 11) (by decide +kernel) (by omega) hok1) kM_X6_19 kT_yX6_requireIndex kZ_RX6 kC_yX6_requireIndex hV_X6_requireIndex rfl rfl rfl ⟨Nat.le_of_ble_eq_true rfl, Nat.le_of_ble_eq_true rfl⟩ ⟨Nat.le_of_ble_eq_true rfl, Nat.le_of_ble_eq_true rfl⟩ (Nat.le_of_ble_eq_true rfl) dX6_ofBlock_3 rfl [] rfl rfl (g_kk1 (w2 := wX x y cI cJ cZ C N S Qk Z) em0 ?_)
    refine g_iload_n X 2 dX6_ofBlock_6 rfl rfl ?_
    refine g_iconst X (v := nI 0) dX6_ofBlock_7 (by decide +kernel) ?_
    refine g_iconst X (v := nI 5) dX6_ofBlock_8 (by decide +kernel) ?_
    by_cases hok2 : inB q (nI 0) (nI 5) = true
    · --
      refine g_callS X (As := [.int q, .int (nI 0), .int (nI 5)]) (rest := []) (m_X6_requireRange l D cI cJ cZ q (nI 0) (nI 5) hok2) kM_X6_24 kT_yX6_requireRange kZ_RX6 kC_yX6_requireRange hV_X6_requireRange rfl rfl rfl ⟨Nat.le_of_ble_eq_true rfl, Nat.le_of_ble_eq_true rfl⟩ ⟨Nat.le_of_ble_eq_true rfl, Nat.le_of_ble_eq_true rfl⟩ (Nat.le_of_ble_eq_true rfl) dX6_ofBlock_9 rfl [] rfl rfl (g_kk1 (w2 := wX x y cI cJ cZ C N S Qk Z) em0 ?_)
      refine absurd ?_ hc1
      (try clear evn); (try clear eqn)
      unfold cB2
      (repeat' split) <;> first | rfl | (exfalso; simp_all; done)
    · --
      refine g_callSX X Y hT hlk hQ (As := [.int q, .int (nI 0), .int (nI 5)]) (rest := []) (m_X6_requireRangeX l hl0 D cI cJ cZ B0 q (nI 0) (nI 5) (eq_false_of_ne_true hok2)) kM_X6_24 kT_yX6_requireRange kZ_RX6 kC_yX6_requireRange hV_X6_requireRange rfl rfl rfl ⟨Nat.le_of_ble_eq_true rfl, Nat.le_of_ble_eq_true rfl⟩ ⟨Nat.le_of_ble_eq_true rfl, Nat.le_of_ble_eq_true rfl⟩ (Nat.le_of_ble_eq_true rfl) dX6_ofBlock_9 rfl em0 (Nat.le_of_ble_eq_true rfl) (Nat.le_of_ble_eq_true rfl) ?_
      refine ⟨?_, rfl⟩
      (try clear evn); (try clear eqn)
      unfold cB2
      (repeat' split) <;> first | (exfalso; simp_all; done) | rfl
  · --
    refine g_callSX X Y hT hlk hQ (As := [.int v, .int (nI 12)]) (rest := []) (m_X6_requireIndexX l hl0 D cI cJ cZ B0 v 12 (nI 11) (by decide +kernel) (by omega) (eq_false_of_ne_true hok1)) kM_X6_19 kT_yX6_requireIndex kZ_RX6 kC_yX6_requireIndex hV_X6_requireIndex rfl rfl rfl ⟨Nat.le_of_ble_eq_true rfl, Nat.le_of_ble_eq_true rfl⟩ ⟨Nat.le_of_ble_eq_true rfl, Nat.le_of_ble_eq_true rfl⟩ (Nat.le_of_ble_eq_true rfl) dX6_ofBlock_3 rfl em0 (Nat.le_of_ble_eq_true rfl) (Nat.le_of_ble_eq_true rfl) ?_
    refine ⟨?_, rfl⟩
    (try clear evn); (try clear eqn)
    unfold cB2
    (repeat' split) <;> first | (exfalso; simp_all; done) | rfl
theorem hV_X6_ofWell : yX6_ofWell.cls = RX6 ∧ yX6_ofWell.cls ≠ "java/lang/invoke/MethodHandle" ∧ yX6_ofWell.cls ≠ "java/lang/invoke/VarHandle" ∧ (parseMethodDescriptor yX6_ofWell.desc).map (fun d => d.parameters.length) = some 2 := by decide +kernel
abbrev rm_X6_ofWell : Room := { frames := 2, cells := 0, slots := 0, locals := 42 }
set_option maxRecDepth 100000 in
set_option maxHeartbeats 4000000 in
theorem m_X6_ofWell (l : Launch) (D : va_G) (cI cJ cZ : ClassId) (x : Nat → Nat) (y : Nat) (C : Cf) (N : Nat → Nat) (S : St) (Qk : Nat → Int64) (Z : St) (v q : Int32) (hC : Cok C N) (hc0 : cI2 (N 0) v q (nI 0) (nI 6) = 0) : g_Ct l D cI cJ cZ yX6_ofWell cX6_ofWell 3 (some .long) rm_X6_ofWell 0 0 [.ref (x 0), .int v, .int q] (wX x y cI cJ cZ C N S Qk Z) (g_eq (some (.long (tellW C S (nN v) (nN q)))) (wX x y cI cJ cZ C N S Qk Z)) := by
  refine g_body RX6 [(0, .ref (x 0)), (1, .int v), (2, .int q)] kH_X6 rfl (Nat.le_of_ble_eq_true rfl) rfl ?_
  intro p e s m args below meth c A X hr hlk hmn Q hQ
  have hN0 := hC.n0
  have hN1 := hC.n1
  have hN2 := hC.n2
  have hk0 := cI2_0 hc0
  obtain ⟨h0a, h0b⟩ := hk0
  refine g_iload_n X 1 dX6_ofWell_0 rfl rfl ?_
  refine g_aload_n X 0 dX6_ofWell_1 rfl rfl ?_
  refine g_get X (C := RX6) (T := TX6) (N := 2) (v := .ref (x 1)) inlX6 0 rfl rfl 0 (Nat.le_of_ble_eq_true rfl) kF_X6_10 rfl dX6_ofWell_2 ?_
  refine g_get X (C := RX0) (T := TX0) (N := 11) (v := .ref (x 12)) inlX0 1 rfl rfl 3 (Nat.le_of_ble_eq_true rfl) kF_X6_63 rfl dX6_ofWell_5 ?_
  refine g_get X (C := RX5) (T := TX5) (N := 9) (v := .int (nI (N 0))) inlX5 12 rfl rfl 0 (Nat.le_of_ble_eq_true rfl) kF_X6_67 rfl dX6_ofWell_8 ?_
  refine g_callS X (As := [.int v, .int (nI (N 0))]) (rest := []) (m_X6_requireIndex l D cI cJ cZ v (N 0) (nI (N 0) - nI 1) rfl (by omega) (by assumption)) kM_X6_19 kT_yX6_requireIndex kZ_RX6 kC_yX6_requireIndex hV_X6_requireIndex rfl rfl rfl ⟨Nat.le_of_ble_eq_true rfl, Nat.le_of_ble_eq_true rfl⟩ ⟨Nat.le_of_ble_eq_true rfl, Nat.le_of_ble_eq_true rfl⟩ (Nat.le_of_ble_eq_true rfl) dX6_ofWell_11 rfl [] rfl (by decide +kernel) (g_kk1 (w2 := wX x y cI cJ cZ C N S Qk Z) em0 ?_)
  refine g_iload_n X 2 dX6_ofWell_14 rfl rfl ?_
  refine g_iconst X (v := nI 0) dX6_ofWell_15 (by decide +kernel) ?_
  refine g_bipush X (v := nI 6) dX6_ofWell_16 (by decide +kernel) ?_
  refine g_callS X (As := [.int q, .int (nI 0), .int (nI 6)]) (rest := []) (m_X6_requireRange l D cI cJ cZ q (nI 0) (nI 6) (by assumption)) kM_X6_24 kT_yX6_requireRange kZ_RX6 kC_yX6_requireRange hV_X6_requireRange rfl rfl rfl ⟨Nat.le_of_ble_eq_true rfl, Nat.le_of_ble_eq_true rfl⟩ ⟨Nat.le_of_ble_eq_true rfl, Nat.le_of_ble_eq_true rfl⟩ (Nat.le_of_ble_eq_true rfl) dX6_ofWell_18 rfl [] rfl (by decide +kernel) (g_kk1 (w2 := wX x y cI cJ cZ C N S Qk Z) em0 ?_)
  obtain ⟨hvn, evn⟩ := inB_m (v := v) (n := N 0) (by omega) (by assumption)
  obtain ⟨hqn, eqn⟩ := inB_k (v := q) (n := 6) (by decide) (by assumption)
  refine g_lvq (lv' := [(0, .ref (x 0)), (1, .int (nI (nN v))), (2, .int (nI (nN q)))]) (by rw [← evn]; rw [← eqn]; first | done | rfl) ?_
  refine g_aload_n X 0 dX6_ofWell_21 rfl rfl ?_
  refine g_get X (C := RX6) (T := TX6) (N := 2) (v := .ref (x 1)) inlX6 0 rfl rfl 0 (Nat.le_of_ble_eq_true rfl) kF_X6_10 rfl dX6_ofWell_22 ?_
  refine g_get X (C := RX0) (T := TX0) (N := 11) (v := .ref (x 12)) inlX0 1 rfl rfl 3 (Nat.le_of_ble_eq_true rfl) kF_X6_63 rfl dX6_ofWell_25 ?_
  refine g_iload_n X 1 dX6_ofWell_28 rfl rfl ?_
  refine g_iload_n X 2 dX6_ofWell_29 rfl rfl ?_
  refine g_callV X (As := [.int (nI (nN v)), .int (nI (nN q))]) (rest := []) (m_X5_tell l D cI cJ cZ (fun i => x (12 + i)) C N S (nN v) (nN q) (by omega) hqn) kM_X6_125 kI_yX5_tell kS_yX5_tell kZ_RX5 kC_yX5_tell hV_X5_tell rfl rfl rfl 0 rfl (ci := 5) rfl ⟨Nat.le_of_ble_eq_true rfl, Nat.le_of_ble_eq_true rfl⟩ ⟨Nat.le_of_ble_eq_true rfl, Nat.le_of_ble_eq_true rfl⟩ (Nat.le_of_ble_eq_true rfl) dX6_ofWell_30 rfl (em_I 12 9 21 0) (em_C (by decide) (Nat.le_of_ble_eq_true rfl) rfl) (em_nd (by decide)) (g_kk1 (w2 := wX x y cI cJ cZ C N S Qk Z) (em3 12 9 21 0 (by decide) (Nat.le_of_ble_eq_true rfl) rfl rfl rfl) ?_)
  refine g_lret X hr hlk hQ dX6_ofWell_33 ?_
  show g_eq _ _ _ _
  exact ⟨rfl, rfl⟩
abbrev rm_X6_ofWellX : Room := { frames := 8, cells := 1, slots := 6, locals := 124 }
set_option maxRecDepth 100000 in
set_option maxHeartbeats 4000000 in
theorem m_X6_ofWellX (l : Launch) (hl0 : l.stackTraces = false) (D : va_G) (cI cJ cZ : ClassId) (B0 : Nat) (x : Nat → Nat) (y : Nat) (C : Cf) (N : Nat → Nat) (S : St) (Qk : Nat → Int64) (Z : St) (v q : Int32) (hC : Cok C N) (hc1 : ¬ cI2 (N 0) v q (nI 0) (nI 6) = 0) (hB : g_Bw B0 (wX x y cI cJ cZ C N S Qk Z)) : g_CtX l D cI cJ cZ B0 yX6_ofWell cX6_ofWell 3 (some .long) rm_X6_ofWellX 1 6 [.ref (x 0), .int v, .int q] (wX x y cI cJ cZ C N S Qk Z) (fun _ _ => False) (fun E w => E = eA (cI2 (N 0) v q (nI 0) (nI 6)) ∧ w = wX x y cI cJ cZ C N S Qk Z) := by
  refine g_bodyX RX6 [(0, .ref (x 0)), (1, .int v), (2, .int q)] kH_X6 rfl (Nat.le_of_ble_eq_true rfl) rfl hB ?_
  intro p e s m args below meth c A X Y hT hr hlk hmn Q hQ
  have hN0 := hC.n0
  have hN1 := hC.n1
  have hN2 := hC.n2
  refine g_iload_n X 1 dX6_ofWell_0 rfl rfl ?_
  refine g_aload_n X 0 dX6_ofWell_1 rfl rfl ?_
  refine g_get X (C := RX6) (T := TX6) (N := 2) (v := .ref (x 1)) inlX6 0 rfl rfl 0 (Nat.le_of_ble_eq_true rfl) kF_X6_10 rfl dX6_ofWell_2 ?_
  refine g_get X (C := RX0) (T := TX0) (N := 11) (v := .ref (x 12)) inlX0 1 rfl rfl 3 (Nat.le_of_ble_eq_true rfl) kF_X6_63 rfl dX6_ofWell_5 ?_
  refine g_get X (C := RX5) (T := TX5) (N := 9) (v := .int (nI (N 0))) inlX5 12 rfl rfl 0 (Nat.le_of_ble_eq_true rfl) kF_X6_67 rfl dX6_ofWell_8 ?_
  by_cases hok1 : inB v (nI 0) (nI (N 0) - nI 1) = true
  · --
    refine g_callS X (As := [.int v, .int (nI (N 0))]) (rest := []) (m_X6_requireIndex l D cI cJ cZ v (N 0) (nI (N 0) - nI 1) rfl (by omega) hok1) kM_X6_19 kT_yX6_requireIndex kZ_RX6 kC_yX6_requireIndex hV_X6_requireIndex rfl rfl rfl ⟨Nat.le_of_ble_eq_true rfl, Nat.le_of_ble_eq_true rfl⟩ ⟨Nat.le_of_ble_eq_true rfl, Nat.le_of_ble_eq_true rfl⟩ (Nat.le_of_ble_eq_true rfl) dX6_ofWell_11 rfl [] rfl rfl (g_kk1 (w2 := wX x y cI cJ cZ C N S Qk Z) em0 ?_)
    refine g_iload_n X 2 dX6_ofWell_14 rfl rfl ?_
    refine g_iconst X (v := nI 0) dX6_ofWell_15 (by decide +kernel) ?_
    refine g_bipush X (v := nI 6) dX6_ofWell_16 (by decide +kernel) ?_
    by_cases hok2 : inB q (nI 0) (nI 6) = true
    · --
      refine g_callS X (As := [.int q, .int (nI 0), .int (nI 6)]) (rest := []) (m_X6_requireRange l D cI cJ cZ q (nI 0) (nI 6) hok2) kM_X6_24 kT_yX6_requireRange kZ_RX6 kC_yX6_requireRange hV_X6_requireRange rfl rfl rfl ⟨Nat.le_of_ble_eq_true rfl, Nat.le_of_ble_eq_true rfl⟩ ⟨Nat.le_of_ble_eq_true rfl, Nat.le_of_ble_eq_true rfl⟩ (Nat.le_of_ble_eq_true rfl) dX6_ofWell_18 rfl [] rfl rfl (g_kk1 (w2 := wX x y cI cJ cZ C N S Qk Z) em0 ?_)
      refine absurd ?_ hc1
      (try clear evn); (try clear eqn)
      unfold cI2
      (repeat' split) <;> first | rfl | (exfalso; simp_all; done)
    · --
      refine g_callSX X Y hT hlk hQ (As := [.int q, .int (nI 0), .int (nI 6)]) (rest := []) (m_X6_requireRangeX l hl0 D cI cJ cZ B0 q (nI 0) (nI 6) (eq_false_of_ne_true hok2)) kM_X6_24 kT_yX6_requireRange kZ_RX6 kC_yX6_requireRange hV_X6_requireRange rfl rfl rfl ⟨Nat.le_of_ble_eq_true rfl, Nat.le_of_ble_eq_true rfl⟩ ⟨Nat.le_of_ble_eq_true rfl, Nat.le_of_ble_eq_true rfl⟩ (Nat.le_of_ble_eq_true rfl) dX6_ofWell_18 rfl em0 (Nat.le_of_ble_eq_true rfl) (Nat.le_of_ble_eq_true rfl) ?_
      refine ⟨?_, rfl⟩
      (try clear evn); (try clear eqn)
      unfold cI2
      (repeat' split) <;> first | (exfalso; simp_all; done) | rfl
  · --
    refine g_callSX X Y hT hlk hQ (As := [.int v, .int (nI (N 0))]) (rest := []) (m_X6_requireIndexX l hl0 D cI cJ cZ B0 v (N 0) (nI (N 0) - nI 1) rfl (by omega) (eq_false_of_ne_true hok1)) kM_X6_19 kT_yX6_requireIndex kZ_RX6 kC_yX6_requireIndex hV_X6_requireIndex rfl rfl rfl ⟨Nat.le_of_ble_eq_true rfl, Nat.le_of_ble_eq_true rfl⟩ ⟨Nat.le_of_ble_eq_true rfl, Nat.le_of_ble_eq_true rfl⟩ (Nat.le_of_ble_eq_true rfl) dX6_ofWell_11 rfl em0 (Nat.le_of_ble_eq_true rfl) (Nat.le_of_ble_eq_true rfl) ?_
    refine ⟨?_, rfl⟩
    (try clear evn); (try clear eqn)
    unfold cI2
    (repeat' split) <;> first | (exfalso; simp_all; done) | rfl
theorem hV_X6_ofSpring : yX6_ofSpring.cls = RX6 ∧ yX6_ofSpring.cls ≠ "java/lang/invoke/MethodHandle" ∧ yX6_ofSpring.cls ≠ "java/lang/invoke/VarHandle" ∧ (parseMethodDescriptor yX6_ofSpring.desc).map (fun d => d.parameters.length) = some 2 := by decide +kernel
abbrev rm_X6_ofSpring : Room := { frames := 2, cells := 0, slots := 0, locals := 49 }
set_option maxRecDepth 100000 in
set_option maxHeartbeats 4000000 in
theorem m_X6_ofSpring (l : Launch) (D : va_G) (cI cJ cZ : ClassId) (x : Nat → Nat) (y : Nat) (C : Cf) (N : Nat → Nat) (S : St) (Qk : Nat → Int64) (Z : St) (v q : Int32) (hC : Cok C N) (hc0 : cI2 (N 2) v q (nI 0) (nI 4) = 0) : g_Ct l D cI cJ cZ yX6_ofSpring cX6_ofSpring 3 (some .long) rm_X6_ofSpring 0 0 [.ref (x 0), .int v, .int q] (wX x y cI cJ cZ C N S Qk Z) (g_eq (some (.long (tellS C S (nN v) (nN q)))) (wX x y cI cJ cZ C N S Qk Z)) := by
  refine g_body RX6 [(0, .ref (x 0)), (1, .int v), (2, .int q)] kH_X6 rfl (Nat.le_of_ble_eq_true rfl) rfl ?_
  intro p e s m args below meth c A X hr hlk hmn Q hQ
  have hN0 := hC.n0
  have hN1 := hC.n1
  have hN2 := hC.n2
  have hk0 := cI2_0 hc0
  obtain ⟨h0a, h0b⟩ := hk0
  refine g_iload_n X 1 dX6_ofSpring_0 rfl rfl ?_
  refine g_aload_n X 0 dX6_ofSpring_1 rfl rfl ?_
  refine g_get X (C := RX6) (T := TX6) (N := 2) (v := .ref (x 1)) inlX6 0 rfl rfl 0 (Nat.le_of_ble_eq_true rfl) kF_X6_10 rfl dX6_ofSpring_2 ?_
  refine g_get X (C := RX0) (T := TX0) (N := 11) (v := .ref (x 24)) inlX0 1 rfl rfl 5 (Nat.le_of_ble_eq_true rfl) kF_X6_98 rfl dX6_ofSpring_5 ?_
  refine g_get X (C := RX3) (T := TX3) (N := 7) (v := .int (nI (N 2))) inlX3 24 rfl rfl 0 (Nat.le_of_ble_eq_true rfl) kF_X6_102 rfl dX6_ofSpring_8 ?_
  refine g_callS X (As := [.int v, .int (nI (N 2))]) (rest := []) (m_X6_requireIndex l D cI cJ cZ v (N 2) (nI (N 2) - nI 1) rfl (by omega) (by assumption)) kM_X6_19 kT_yX6_requireIndex kZ_RX6 kC_yX6_requireIndex hV_X6_requireIndex rfl rfl rfl ⟨Nat.le_of_ble_eq_true rfl, Nat.le_of_ble_eq_true rfl⟩ ⟨Nat.le_of_ble_eq_true rfl, Nat.le_of_ble_eq_true rfl⟩ (Nat.le_of_ble_eq_true rfl) dX6_ofSpring_11 rfl [] rfl (by decide +kernel) (g_kk1 (w2 := wX x y cI cJ cZ C N S Qk Z) em0 ?_)
  refine g_iload_n X 2 dX6_ofSpring_14 rfl rfl ?_
  refine g_iconst X (v := nI 0) dX6_ofSpring_15 (by decide +kernel) ?_
  refine g_iconst X (v := nI 4) dX6_ofSpring_16 (by decide +kernel) ?_
  refine g_callS X (As := [.int q, .int (nI 0), .int (nI 4)]) (rest := []) (m_X6_requireRange l D cI cJ cZ q (nI 0) (nI 4) (by assumption)) kM_X6_24 kT_yX6_requireRange kZ_RX6 kC_yX6_requireRange hV_X6_requireRange rfl rfl rfl ⟨Nat.le_of_ble_eq_true rfl, Nat.le_of_ble_eq_true rfl⟩ ⟨Nat.le_of_ble_eq_true rfl, Nat.le_of_ble_eq_true rfl⟩ (Nat.le_of_ble_eq_true rfl) dX6_ofSpring_17 rfl [] rfl (by decide +kernel) (g_kk1 (w2 := wX x y cI cJ cZ C N S Qk Z) em0 ?_)
  obtain ⟨hvn, evn⟩ := inB_m (v := v) (n := N 2) (by omega) (by assumption)
  obtain ⟨hqn, eqn⟩ := inB_k (v := q) (n := 4) (by decide) (by assumption)
  refine g_lvq (lv' := [(0, .ref (x 0)), (1, .int (nI (nN v))), (2, .int (nI (nN q)))]) (by rw [← evn]; rw [← eqn]; first | done | rfl) ?_
  refine g_aload_n X 0 dX6_ofSpring_20 rfl rfl ?_
  refine g_get X (C := RX6) (T := TX6) (N := 2) (v := .ref (x 1)) inlX6 0 rfl rfl 0 (Nat.le_of_ble_eq_true rfl) kF_X6_10 rfl dX6_ofSpring_21 ?_
  refine g_get X (C := RX0) (T := TX0) (N := 11) (v := .ref (x 24)) inlX0 1 rfl rfl 5 (Nat.le_of_ble_eq_true rfl) kF_X6_98 rfl dX6_ofSpring_24 ?_
  refine g_iload_n X 1 dX6_ofSpring_27 rfl rfl ?_
  refine g_iload_n X 2 dX6_ofSpring_28 rfl rfl ?_
  refine g_callV X (As := [.int (nI (nN v)), .int (nI (nN q))]) (rest := []) (m_X3_tell l D cI cJ cZ (fun i => x (24 + i)) C N S (nN v) (nN q) (by omega) hqn) kM_X6_126 kI_yX3_tell kS_yX3_tell kZ_RX3 kC_yX3_tell hV_X3_tell rfl rfl rfl 0 rfl (ci := 3) rfl ⟨Nat.le_of_ble_eq_true rfl, Nat.le_of_ble_eq_true rfl⟩ ⟨Nat.le_of_ble_eq_true rfl, Nat.le_of_ble_eq_true rfl⟩ (Nat.le_of_ble_eq_true rfl) dX6_ofSpring_29 rfl (em_I 24 7 31 0) (em_C (by decide) (Nat.le_of_ble_eq_true rfl) rfl) (em_nd (by decide)) (g_kk1 (w2 := wX x y cI cJ cZ C N S Qk Z) (em3 24 7 31 0 (by decide) (Nat.le_of_ble_eq_true rfl) rfl rfl rfl) ?_)
  refine g_lret X hr hlk hQ dX6_ofSpring_32 ?_
  show g_eq _ _ _ _
  exact ⟨rfl, rfl⟩
abbrev rm_X6_ofSpringX : Room := { frames := 8, cells := 1, slots := 6, locals := 124 }
set_option maxRecDepth 100000 in
set_option maxHeartbeats 4000000 in
theorem m_X6_ofSpringX (l : Launch) (hl0 : l.stackTraces = false) (D : va_G) (cI cJ cZ : ClassId) (B0 : Nat) (x : Nat → Nat) (y : Nat) (C : Cf) (N : Nat → Nat) (S : St) (Qk : Nat → Int64) (Z : St) (v q : Int32) (hC : Cok C N) (hc1 : ¬ cI2 (N 2) v q (nI 0) (nI 4) = 0) (hB : g_Bw B0 (wX x y cI cJ cZ C N S Qk Z)) : g_CtX l D cI cJ cZ B0 yX6_ofSpring cX6_ofSpring 3 (some .long) rm_X6_ofSpringX 1 6 [.ref (x 0), .int v, .int q] (wX x y cI cJ cZ C N S Qk Z) (fun _ _ => False) (fun E w => E = eA (cI2 (N 2) v q (nI 0) (nI 4)) ∧ w = wX x y cI cJ cZ C N S Qk Z) := by
  refine g_bodyX RX6 [(0, .ref (x 0)), (1, .int v), (2, .int q)] kH_X6 rfl (Nat.le_of_ble_eq_true rfl) rfl hB ?_
  intro p e s m args below meth c A X Y hT hr hlk hmn Q hQ
  have hN0 := hC.n0
  have hN1 := hC.n1
  have hN2 := hC.n2
  refine g_iload_n X 1 dX6_ofSpring_0 rfl rfl ?_
  refine g_aload_n X 0 dX6_ofSpring_1 rfl rfl ?_
  refine g_get X (C := RX6) (T := TX6) (N := 2) (v := .ref (x 1)) inlX6 0 rfl rfl 0 (Nat.le_of_ble_eq_true rfl) kF_X6_10 rfl dX6_ofSpring_2 ?_
  refine g_get X (C := RX0) (T := TX0) (N := 11) (v := .ref (x 24)) inlX0 1 rfl rfl 5 (Nat.le_of_ble_eq_true rfl) kF_X6_98 rfl dX6_ofSpring_5 ?_
  refine g_get X (C := RX3) (T := TX3) (N := 7) (v := .int (nI (N 2))) inlX3 24 rfl rfl 0 (Nat.le_of_ble_eq_true rfl) kF_X6_102 rfl dX6_ofSpring_8 ?_
  by_cases hok1 : inB v (nI 0) (nI (N 2) - nI 1) = true
  · --
    refine g_callS X (As := [.int v, .int (nI (N 2))]) (rest := []) (m_X6_requireIndex l D cI cJ cZ v (N 2) (nI (N 2) - nI 1) rfl (by omega) hok1) kM_X6_19 kT_yX6_requireIndex kZ_RX6 kC_yX6_requireIndex hV_X6_requireIndex rfl rfl rfl ⟨Nat.le_of_ble_eq_true rfl, Nat.le_of_ble_eq_true rfl⟩ ⟨Nat.le_of_ble_eq_true rfl, Nat.le_of_ble_eq_true rfl⟩ (Nat.le_of_ble_eq_true rfl) dX6_ofSpring_11 rfl [] rfl rfl (g_kk1 (w2 := wX x y cI cJ cZ C N S Qk Z) em0 ?_)
    refine g_iload_n X 2 dX6_ofSpring_14 rfl rfl ?_
    refine g_iconst X (v := nI 0) dX6_ofSpring_15 (by decide +kernel) ?_
    refine g_iconst X (v := nI 4) dX6_ofSpring_16 (by decide +kernel) ?_
    by_cases hok2 : inB q (nI 0) (nI 4) = true
    · --
      refine g_callS X (As := [.int q, .int (nI 0), .int (nI 4)]) (rest := []) (m_X6_requireRange l D cI cJ cZ q (nI 0) (nI 4) hok2) kM_X6_24 kT_yX6_requireRange kZ_RX6 kC_yX6_requireRange hV_X6_requireRange rfl rfl rfl ⟨Nat.le_of_ble_eq_true rfl, Nat.le_of_ble_eq_true rfl⟩ ⟨Nat.le_of_ble_eq_true rfl, Nat.le_of_ble_eq_true rfl⟩ (Nat.le_of_ble_eq_true rfl) dX6_ofSpring_17 rfl [] rfl rfl (g_kk1 (w2 := wX x y cI cJ cZ C N S Qk Z) em0 ?_)
      refine absurd ?_ hc1
      (try clear evn); (try clear eqn)
      unfold cI2
      (repeat' split) <;> first | rfl | (exfalso; simp_all; done)
    · --
      refine g_callSX X Y hT hlk hQ (As := [.int q, .int (nI 0), .int (nI 4)]) (rest := []) (m_X6_requireRangeX l hl0 D cI cJ cZ B0 q (nI 0) (nI 4) (eq_false_of_ne_true hok2)) kM_X6_24 kT_yX6_requireRange kZ_RX6 kC_yX6_requireRange hV_X6_requireRange rfl rfl rfl ⟨Nat.le_of_ble_eq_true rfl, Nat.le_of_ble_eq_true rfl⟩ ⟨Nat.le_of_ble_eq_true rfl, Nat.le_of_ble_eq_true rfl⟩ (Nat.le_of_ble_eq_true rfl) dX6_ofSpring_17 rfl em0 (Nat.le_of_ble_eq_true rfl) (Nat.le_of_ble_eq_true rfl) ?_
      refine ⟨?_, rfl⟩
      (try clear evn); (try clear eqn)
      unfold cI2
      (repeat' split) <;> first | (exfalso; simp_all; done) | rfl
  · --
    refine g_callSX X Y hT hlk hQ (As := [.int v, .int (nI (N 2))]) (rest := []) (m_X6_requireIndexX l hl0 D cI cJ cZ B0 v (N 2) (nI (N 2) - nI 1) rfl (by omega) (eq_false_of_ne_true hok1)) kM_X6_19 kT_yX6_requireIndex kZ_RX6 kC_yX6_requireIndex hV_X6_requireIndex rfl rfl rfl ⟨Nat.le_of_ble_eq_true rfl, Nat.le_of_ble_eq_true rfl⟩ ⟨Nat.le_of_ble_eq_true rfl, Nat.le_of_ble_eq_true rfl⟩ (Nat.le_of_ble_eq_true rfl) dX6_ofSpring_11 rfl em0 (Nat.le_of_ble_eq_true rfl) (Nat.le_of_ble_eq_true rfl) ?_
    refine ⟨?_, rfl⟩
    (try clear evn); (try clear eqn)
    unfold cI2
    (repeat' split) <;> first | (exfalso; simp_all; done) | rfl
theorem hV_X6_quake : yX6_quake.cls = RX6 ∧ yX6_quake.cls ≠ "java/lang/invoke/MethodHandle" ∧ yX6_quake.cls ≠ "java/lang/invoke/VarHandle" ∧ (parseMethodDescriptor yX6_quake.desc).map (fun d => d.parameters.length) = some 2 := by decide +kernel
abbrev rm_X6_quake : Room := { frames := 2, cells := 0, slots := 0, locals := 43 }
set_option maxRecDepth 100000 in
set_option maxHeartbeats 4000000 in
theorem m_X6_quake (l : Launch) (D : va_G) (cI cJ cZ : ClassId) (x : Nat → Nat) (y : Nat) (C : Cf) (N : Nat → Nat) (S : St) (Qk : Nat → Int64) (Z : St) (v q : Int32) (hq : S 14 0 = lN (qN S) ∧ qN S ≤ 900000) (hc0 : cI2 (kpM S) v q (nI 0) (nI 2) = 0) : g_Ct l D cI cJ cZ yX6_quake cX6_quake 3 (some .int) rm_X6_quake 0 0 [.ref (x 0), .int v, .int q] (wX x y cI cJ cZ C N S Qk Z) (g_eq (some (.int (tellQ Qk (nN v) (nN q)))) (wX x y cI cJ cZ C N S Qk Z)) := by
  refine g_body RX6 [(0, .ref (x 0)), (1, .int v), (2, .int q)] kH_X6 rfl (Nat.le_of_ble_eq_true rfl) rfl ?_
  intro p e s m args below meth c A X hr hlk hmn Q hQ
  have hkp := kp_m hq
  have hq2 := hq.2
  have hk0 := cI2_0 hc0
  obtain ⟨h0a, h0b⟩ := hk0
  refine g_iload_n X 1 dX6_quake_0 rfl rfl ?_
  refine g_aload_n X 0 dX6_quake_1 rfl rfl ?_
  refine g_get X (C := RX6) (T := TX6) (N := 2) (v := .ref (x 1)) inlX6 0 rfl rfl 0 (Nat.le_of_ble_eq_true rfl) kF_X6_10 rfl dX6_quake_2 ?_
  refine g_get X (C := RX0) (T := TX0) (N := 11) (v := .ref (x 31)) inlX0 1 rfl rfl 6 (Nat.le_of_ble_eq_true rfl) kF_X6_127 rfl dX6_quake_5 ?_
  refine g_callV X (As := []) (rest := [.int v]) (m_X2_kept l D cI cJ cZ (fun i => x (31 + i)) S Qk  ⟨hq.1, by omega⟩) kM_X6_131 kI_yX2_kept kS_yX2_kept kZ_RX2 kC_yX2_kept hV_X2_kept rfl rfl rfl 0 rfl (ci := 2) rfl ⟨Nat.le_of_ble_eq_true rfl, Nat.le_of_ble_eq_true rfl⟩ ⟨Nat.le_of_ble_eq_true rfl, Nat.le_of_ble_eq_true rfl⟩ (Nat.le_of_ble_eq_true rfl) dX6_quake_8 rfl (em_I 31 4 35 0) (em_C (by decide) (Nat.le_of_ble_eq_true rfl) rfl) (em_nd (by decide)) (g_kk1 (w2 := wX x y cI cJ cZ C N S Qk Z) (em3 31 4 35 0 (by decide) (Nat.le_of_ble_eq_true rfl) rfl rfl rfl) ?_)
  refine g_st (st' := [.int (nI (kpM S)), .int v]) (by rw [← (congrArg nI (kp_k hq))]; first | done | rfl) ?_
  refine g_callS X (As := [.int v, .int (nI (kpM S))]) (rest := []) (m_X6_requireIndex l D cI cJ cZ v (kpM S) (nI (kpM S) - nI 1) rfl (by omega) (by assumption)) kM_X6_19 kT_yX6_requireIndex kZ_RX6 kC_yX6_requireIndex hV_X6_requireIndex rfl rfl rfl ⟨Nat.le_of_ble_eq_true rfl, Nat.le_of_ble_eq_true rfl⟩ ⟨Nat.le_of_ble_eq_true rfl, Nat.le_of_ble_eq_true rfl⟩ (Nat.le_of_ble_eq_true rfl) dX6_quake_11 rfl [] rfl (by decide +kernel) (g_kk1 (w2 := wX x y cI cJ cZ C N S Qk Z) em0 ?_)
  refine g_iload_n X 2 dX6_quake_14 rfl rfl ?_
  refine g_iconst X (v := nI 0) dX6_quake_15 (by decide +kernel) ?_
  refine g_iconst X (v := nI 2) dX6_quake_16 (by decide +kernel) ?_
  refine g_callS X (As := [.int q, .int (nI 0), .int (nI 2)]) (rest := []) (m_X6_requireRange l D cI cJ cZ q (nI 0) (nI 2) (by assumption)) kM_X6_24 kT_yX6_requireRange kZ_RX6 kC_yX6_requireRange hV_X6_requireRange rfl rfl rfl ⟨Nat.le_of_ble_eq_true rfl, Nat.le_of_ble_eq_true rfl⟩ ⟨Nat.le_of_ble_eq_true rfl, Nat.le_of_ble_eq_true rfl⟩ (Nat.le_of_ble_eq_true rfl) dX6_quake_17 rfl [] rfl (by decide +kernel) (g_kk1 (w2 := wX x y cI cJ cZ C N S Qk Z) em0 ?_)
  obtain ⟨hvn, evn⟩ := inB_m (v := v) (n := kpM S) (by omega) (by assumption)
  obtain ⟨hqn, eqn⟩ := inB_k (v := q) (n := 2) (by decide) (by assumption)
  refine g_lvq (lv' := [(0, .ref (x 0)), (1, .int (nI (nN v))), (2, .int (nI (nN q)))]) (by rw [← evn]; rw [← eqn]; first | done | rfl) ?_
  refine g_aload_n X 0 dX6_quake_20 rfl rfl ?_
  refine g_get X (C := RX6) (T := TX6) (N := 2) (v := .ref (x 1)) inlX6 0 rfl rfl 0 (Nat.le_of_ble_eq_true rfl) kF_X6_10 rfl dX6_quake_21 ?_
  refine g_get X (C := RX0) (T := TX0) (N := 11) (v := .ref (x 31)) inlX0 1 rfl rfl 6 (Nat.le_of_ble_eq_true rfl) kF_X6_127 rfl dX6_quake_24 ?_
  refine g_iload_n X 1 dX6_quake_27 rfl rfl ?_
  refine g_iload_n X 2 dX6_quake_28 rfl rfl ?_
  refine g_callV X (As := [.int (nI (nN v)), .int (nI (nN q))]) (rest := []) (m_X2_tell l D cI cJ cZ (fun i => x (31 + i)) S Qk (nN v) (nN q) (by omega) hqn) kM_X6_137 kI_yX2_tell kS_yX2_tell kZ_RX2 kC_yX2_tell hV_X2_tell rfl rfl rfl 0 rfl (ci := 2) rfl ⟨Nat.le_of_ble_eq_true rfl, Nat.le_of_ble_eq_true rfl⟩ ⟨Nat.le_of_ble_eq_true rfl, Nat.le_of_ble_eq_true rfl⟩ (Nat.le_of_ble_eq_true rfl) dX6_quake_29 rfl (em_I 31 4 35 0) (em_C (by decide) (Nat.le_of_ble_eq_true rfl) rfl) (em_nd (by decide)) (g_kk1 (w2 := wX x y cI cJ cZ C N S Qk Z) (em3 31 4 35 0 (by decide) (Nat.le_of_ble_eq_true rfl) rfl rfl rfl) ?_)
  refine g_iret X hr hlk hQ dX6_quake_32 ?_
  show g_eq _ _ _ _
  exact ⟨rfl, rfl⟩
abbrev rm_X6_quakeX : Room := { frames := 8, cells := 1, slots := 6, locals := 124 }
set_option maxRecDepth 100000 in
set_option maxHeartbeats 4000000 in
theorem m_X6_quakeX (l : Launch) (hl0 : l.stackTraces = false) (D : va_G) (cI cJ cZ : ClassId) (B0 : Nat) (x : Nat → Nat) (y : Nat) (C : Cf) (N : Nat → Nat) (S : St) (Qk : Nat → Int64) (Z : St) (v q : Int32) (hq : S 14 0 = lN (qN S) ∧ qN S ≤ 900000) (hc1 : ¬ cI2 (kpM S) v q (nI 0) (nI 2) = 0) (hB : g_Bw B0 (wX x y cI cJ cZ C N S Qk Z)) : g_CtX l D cI cJ cZ B0 yX6_quake cX6_quake 3 (some .int) rm_X6_quakeX 1 6 [.ref (x 0), .int v, .int q] (wX x y cI cJ cZ C N S Qk Z) (fun _ _ => False) (fun E w => E = eA (cI2 (kpM S) v q (nI 0) (nI 2)) ∧ w = wX x y cI cJ cZ C N S Qk Z) := by
  refine g_bodyX RX6 [(0, .ref (x 0)), (1, .int v), (2, .int q)] kH_X6 rfl (Nat.le_of_ble_eq_true rfl) rfl hB ?_
  intro p e s m args below meth c A X Y hT hr hlk hmn Q hQ
  have hkp := kp_m hq
  have hq2 := hq.2
  refine g_iload_n X 1 dX6_quake_0 rfl rfl ?_
  refine g_aload_n X 0 dX6_quake_1 rfl rfl ?_
  refine g_get X (C := RX6) (T := TX6) (N := 2) (v := .ref (x 1)) inlX6 0 rfl rfl 0 (Nat.le_of_ble_eq_true rfl) kF_X6_10 rfl dX6_quake_2 ?_
  refine g_get X (C := RX0) (T := TX0) (N := 11) (v := .ref (x 31)) inlX0 1 rfl rfl 6 (Nat.le_of_ble_eq_true rfl) kF_X6_127 rfl dX6_quake_5 ?_
  refine g_callV X (As := []) (rest := [.int v]) (m_X2_kept l D cI cJ cZ (fun i => x (31 + i)) S Qk  ⟨hq.1, by omega⟩) kM_X6_131 kI_yX2_kept kS_yX2_kept kZ_RX2 kC_yX2_kept hV_X2_kept rfl rfl rfl 0 rfl (ci := 2) rfl ⟨Nat.le_of_ble_eq_true rfl, Nat.le_of_ble_eq_true rfl⟩ ⟨Nat.le_of_ble_eq_true rfl, Nat.le_of_ble_eq_true rfl⟩ (Nat.le_of_ble_eq_true rfl) dX6_quake_8 rfl (em_I 31 4 35 0) (em_C (by decide) (Nat.le_of_ble_eq_true rfl) rfl) (em_nd (by decide)) (g_kk1 (w2 := wX x y cI cJ cZ C N S Qk Z) (em3 31 4 35 0 (by decide) (Nat.le_of_ble_eq_true rfl) rfl rfl rfl) ?_)
  refine g_st (st' := [.int (nI (kpM S)), .int v]) (by rw [← (congrArg nI (kp_k hq))]; first | done | rfl) ?_
  by_cases hok1 : inB v (nI 0) (nI (kpM S) - nI 1) = true
  · --
    refine g_callS X (As := [.int v, .int (nI (kpM S))]) (rest := []) (m_X6_requireIndex l D cI cJ cZ v (kpM S) (nI (kpM S) - nI 1) rfl (by omega) hok1) kM_X6_19 kT_yX6_requireIndex kZ_RX6 kC_yX6_requireIndex hV_X6_requireIndex rfl rfl rfl ⟨Nat.le_of_ble_eq_true rfl, Nat.le_of_ble_eq_true rfl⟩ ⟨Nat.le_of_ble_eq_true rfl, Nat.le_of_ble_eq_true rfl⟩ (Nat.le_of_ble_eq_true rfl) dX6_quake_11 rfl [] rfl rfl (g_kk1 (w2 := wX x y cI cJ cZ C N S Qk Z) em0 ?_)
    refine g_iload_n X 2 dX6_quake_14 rfl rfl ?_
    refine g_iconst X (v := nI 0) dX6_quake_15 (by decide +kernel) ?_
    refine g_iconst X (v := nI 2) dX6_quake_16 (by decide +kernel) ?_
    by_cases hok2 : inB q (nI 0) (nI 2) = true
    · --
      refine g_callS X (As := [.int q, .int (nI 0), .int (nI 2)]) (rest := []) (m_X6_requireRange l D cI cJ cZ q (nI 0) (nI 2) hok2) kM_X6_24 kT_yX6_requireRange kZ_RX6 kC_yX6_requireRange hV_X6_requireRange rfl rfl rfl ⟨Nat.le_of_ble_eq_true rfl, Nat.le_of_ble_eq_true rfl⟩ ⟨Nat.le_of_ble_eq_true rfl, Nat.le_of_ble_eq_true rfl⟩ (Nat.le_of_ble_eq_true rfl) dX6_quake_17 rfl [] rfl rfl (g_kk1 (w2 := wX x y cI cJ cZ C N S Qk Z) em0 ?_)
      refine absurd ?_ hc1
      (try clear evn); (try clear eqn)
      unfold cI2
      (repeat' split) <;> first | rfl | (exfalso; simp_all; done)
    · --
      refine g_callSX X Y hT hlk hQ (As := [.int q, .int (nI 0), .int (nI 2)]) (rest := []) (m_X6_requireRangeX l hl0 D cI cJ cZ B0 q (nI 0) (nI 2) (eq_false_of_ne_true hok2)) kM_X6_24 kT_yX6_requireRange kZ_RX6 kC_yX6_requireRange hV_X6_requireRange rfl rfl rfl ⟨Nat.le_of_ble_eq_true rfl, Nat.le_of_ble_eq_true rfl⟩ ⟨Nat.le_of_ble_eq_true rfl, Nat.le_of_ble_eq_true rfl⟩ (Nat.le_of_ble_eq_true rfl) dX6_quake_17 rfl em0 (Nat.le_of_ble_eq_true rfl) (Nat.le_of_ble_eq_true rfl) ?_
      refine ⟨?_, rfl⟩
      (try clear evn); (try clear eqn)
      unfold cI2
      (repeat' split) <;> first | (exfalso; simp_all; done) | rfl
  · --
    refine g_callSX X Y hT hlk hQ (As := [.int v, .int (nI (kpM S))]) (rest := []) (m_X6_requireIndexX l hl0 D cI cJ cZ B0 v (kpM S) (nI (kpM S) - nI 1) rfl (by omega) (eq_false_of_ne_true hok1)) kM_X6_19 kT_yX6_requireIndex kZ_RX6 kC_yX6_requireIndex hV_X6_requireIndex rfl rfl rfl ⟨Nat.le_of_ble_eq_true rfl, Nat.le_of_ble_eq_true rfl⟩ ⟨Nat.le_of_ble_eq_true rfl, Nat.le_of_ble_eq_true rfl⟩ (Nat.le_of_ble_eq_true rfl) dX6_quake_11 rfl em0 (Nat.le_of_ble_eq_true rfl) (Nat.le_of_ble_eq_true rfl) ?_
    refine ⟨?_, rfl⟩
    (try clear evn); (try clear eqn)
    unfold cI2
    (repeat' split) <;> first | (exfalso; simp_all; done) | rfl
