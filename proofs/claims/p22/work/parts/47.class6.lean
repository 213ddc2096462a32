theorem pa_z {z : Int64} {v : Int32} (h : 0 ≤ z.toInt ∧ z.toInt ≤ 1000) (hv : inB v (nI 1) (nI 24) = true) : (if nI 600 < z.toInt32 + v then false else true) = decide (z + v.toInt64 ≤ 600) := by
  obtain ⟨h1, h2⟩ := inB_iff.mp hv
  rw [Int32.lt_iff_toInt_lt, nI_toInt (by omega)] at h1 h2
  have e2 : z.toInt32.toInt = z.toInt := by rw [Int64.toInt_toInt32, Int.bmod_eq_of_le (by omega) (by omega)]
  have e3 : (z.toInt32 + v).toInt = z.toInt + v.toInt := by rw [Int32.toInt_add, e2, Int.bmod_eq_of_le (by omega) (by omega)]
  have e4 : (z + v.toInt64).toInt = z.toInt + v.toInt := by rw [Int64.toInt_add, Int32.toInt_toInt64, Int.bmod_eq_of_le (by omega) (by omega)]
  have e6 : (600 : Int64).toInt = 600 := by decide
  by_cases h3 : z + v.toInt64 ≤ 600
  · rw [decide_eq_true h3, if_neg]
    rw [Int64.le_iff_toInt_le, e4, e6] at h3
    rw [Int32.lt_iff_toInt_lt, nI_toInt (by omega), e3]
    omega
  · rw [decide_eq_false h3, if_pos]
    rw [Int64.le_iff_toInt_le, e4, e6] at h3
    rw [Int32.lt_iff_toInt_lt, nI_toInt (by omega), e3]
    omega

theorem hV_X6_count : yX6_count.cls = RX6 ∧ yX6_count.cls ≠ "java/lang/invoke/MethodHandle" ∧ yX6_count.cls ≠ "java/lang/invoke/VarHandle" ∧ (parseMethodDescriptor yX6_count.desc).map (fun d => d.parameters.length) = some 1 := by decide +kernel
abbrev rm_X6_count : Room := { frames := 2, cells := 0, slots := 0, locals := 42 }
set_option maxRecDepth 100000 in
set_option maxHeartbeats 4000000 in
theorem m_X6_count (l : Launch) (D : va_G) (cI cJ cZ : ClassId) (x : Nat → Nat) (y : Nat) (C : Cf) (N : Nat → Nat) (S : St) (Qk : Nat → Int64) (Z : St) (v : Int32)  (hc0 : cR1 v (nI 0) (nI 4) = 0) : g_Ct l D cI cJ cZ yX6_count cX6_count 2 (some .int) rm_X6_count 0 0 [.ref (x 0), .int v] (wX x y cI cJ cZ C N S Qk Z) (g_eq (some (.int (cnM N S v))) (wX x y cI cJ cZ C N S Qk Z)) := by
  refine g_body RX6 [(0, .ref (x 0)), (1, .int v)] kH_X6 rfl (Nat.le_of_ble_eq_true rfl) rfl ?_
  intro p e s m args below meth c A X hr hlk hmn Q hQ
  have hk0 := cR1_0 hc0
  refine g_iload_n X 1 dX6_count_0 rfl rfl ?_
  refine g_iconst X (v := nI 0) dX6_count_1 (by decide +kernel) ?_
  refine g_iconst X (v := nI 4) dX6_count_2 (by decide +kernel) ?_
  refine g_callS X (As := [.int v, .int (nI 0), .int (nI 4)]) (rest := []) (m_X6_requireRange l D cI cJ cZ v (nI 0) (nI 4) (by assumption)) kM_X6_24 kT_yX6_requireRange kZ_RX6 kC_yX6_requireRange hV_X6_requireRange rfl rfl rfl ⟨Nat.le_of_ble_eq_true rfl, Nat.le_of_ble_eq_true rfl⟩ ⟨Nat.le_of_ble_eq_true rfl, Nat.le_of_ble_eq_true rfl⟩ (Nat.le_of_ble_eq_true rfl) dX6_count_3 rfl [] rfl (by decide +kernel) (g_kk1 (w2 := wX x y cI cJ cZ C N S Qk Z) em0 ?_)
  obtain ⟨hvn, evn⟩ := inB_k (v := v) (n := 4) (by decide) (by assumption)
  obtain ⟨j, ej⟩ : ∃ j, j = nN v := ⟨_, rfl⟩
  rw [← ej] at hvn evn
  refine g_lvq (lv' := [(0, .ref (x 0)), (1, .int (nI j))]) (by rw [← evn]; first | done | rfl) ?_
  refine g_iload_n X 1 dX6_count_6 rfl rfl ?_
  rcases (show j = 0 ∨ j = 1 ∨ j = 2 ∨ j = 3 ∨ j = 4 by omega) with rfl | rfl | rfl | rfl | rfl
  · --
    refine g_tsw X (tgt := 36) dX6_count_7 (by decide +kernel) rfl (by decide) ?_
    refine g_aload_n X 0 dX6_count_36 rfl rfl ?_
    refine g_get X (C := RX6) (T := TX6) (N := 2) (v := .ref (x 1)) inlX6 0 rfl rfl 0 (Nat.le_of_ble_eq_true rfl) kF_X6_10 rfl dX6_count_37 ?_
    refine g_get X (C := RX0) (T := TX0) (N := 11) (v := .int ((S 13 0).toInt32)) inlX0 1 rfl rfl 0 (Nat.le_of_ble_eq_true rfl) kF_X6_28 rfl dX6_count_40 ?_
    refine g_iret X hr hlk hQ dX6_count_43 ?_
    show g_eq _ _ _ _
    rw [evn]
    exact ⟨rfl, rfl⟩
  · --
    refine g_tsw X (tgt := 44) dX6_count_7 (by decide +kernel) rfl (by decide) ?_
    refine g_aload_n X 0 dX6_count_44 rfl rfl ?_
    refine g_get X (C := RX6) (T := TX6) (N := 2) (v := .ref (x 1)) inlX6 0 rfl rfl 0 (Nat.le_of_ble_eq_true rfl) kF_X6_10 rfl dX6_count_45 ?_
    refine g_get X (C := RX0) (T := TX0) (N := 11) (v := .ref (x 12)) inlX0 1 rfl rfl 3 (Nat.le_of_ble_eq_true rfl) kF_X6_63 rfl dX6_count_48 ?_
    refine g_get X (C := RX5) (T := TX5) (N := 9) (v := .int (nI (N 0))) inlX5 12 rfl rfl 0 (Nat.le_of_ble_eq_true rfl) kF_X6_67 rfl dX6_count_51 ?_
    refine g_iret X hr hlk hQ dX6_count_54 ?_
    show g_eq _ _ _ _
    rw [evn]
    exact ⟨rfl, rfl⟩
  · --
    refine g_tsw X (tgt := 55) dX6_count_7 (by decide +kernel) rfl (by decide) ?_
    refine g_aload_n X 0 dX6_count_55 rfl rfl ?_
    refine g_get X (C := RX6) (T := TX6) (N := 2) (v := .ref (x 1)) inlX6 0 rfl rfl 0 (Nat.le_of_ble_eq_true rfl) kF_X6_10 rfl dX6_count_56 ?_
    refine g_get X (C := RX0) (T := TX0) (N := 11) (v := .ref (x 24)) inlX0 1 rfl rfl 5 (Nat.le_of_ble_eq_true rfl) kF_X6_98 rfl dX6_count_59 ?_
    refine g_get X (C := RX3) (T := TX3) (N := 7) (v := .int (nI (N 2))) inlX3 24 rfl rfl 0 (Nat.le_of_ble_eq_true rfl) kF_X6_102 rfl dX6_count_62 ?_
    refine g_iret X hr hlk hQ dX6_count_65 ?_
    show g_eq _ _ _ _
    rw [evn]
    exact ⟨rfl, rfl⟩
  · --
    refine g_tsw X (tgt := 66) dX6_count_7 (by decide +kernel) rfl (by decide) ?_
    refine g_aload_n X 0 dX6_count_66 rfl rfl ?_
    refine g_get X (C := RX6) (T := TX6) (N := 2) (v := .ref (x 1)) inlX6 0 rfl rfl 0 (Nat.le_of_ble_eq_true rfl) kF_X6_10 rfl dX6_count_67 ?_
    refine g_get X (C := RX0) (T := TX0) (N := 11) (v := .ref (x 21)) inlX0 1 rfl rfl 4 (Nat.le_of_ble_eq_true rfl) kF_X6_87 rfl dX6_count_70 ?_
    refine g_get X (C := RX4) (T := TX4) (N := 3) (v := .int (nI (N 1))) inlX4 21 rfl rfl 0 (Nat.le_of_ble_eq_true rfl) kF_X6_91 rfl dX6_count_73 ?_
    refine g_iret X hr hlk hQ dX6_count_76 ?_
    show g_eq _ _ _ _
    rw [evn]
    exact ⟨rfl, rfl⟩
  · --
    refine g_tswO X (tgt := 77) dX6_count_7 (by decide +kernel) (by decide) ?_
    refine g_aload_n X 0 dX6_count_77 rfl rfl ?_
    refine g_get X (C := RX6) (T := TX6) (N := 2) (v := .ref (x 1)) inlX6 0 rfl rfl 0 (Nat.le_of_ble_eq_true rfl) kF_X6_10 rfl dX6_count_78 ?_
    refine g_get X (C := RX0) (T := TX0) (N := 11) (v := .ref (x 31)) inlX0 1 rfl rfl 6 (Nat.le_of_ble_eq_true rfl) kF_X6_127 rfl dX6_count_81 ?_
    refine g_get X (C := RX2) (T := TX2) (N := 4) (v := .int ((S 14 0).toInt32)) inlX2 31 rfl rfl 0 (Nat.le_of_ble_eq_true rfl) kF_X6_139 rfl dX6_count_84 ?_
    refine g_iret X hr hlk hQ dX6_count_87 ?_
    show g_eq _ _ _ _
    rw [evn]
    exact ⟨rfl, rfl⟩
abbrev rm_X6_countX : Room := { frames := 8, cells := 1, slots := 6, locals := 124 }
set_option maxRecDepth 100000 in
set_option maxHeartbeats 4000000 in
theorem m_X6_countX (l : Launch) (hl0 : l.stackTraces = false) (D : va_G) (cI cJ cZ : ClassId) (B0 : Nat) (x : Nat → Nat) (y : Nat) (C : Cf) (N : Nat → Nat) (S : St) (Qk : Nat → Int64) (Z : St) (v : Int32)  (hc1 : ¬ cR1 v (nI 0) (nI 4) = 0) (hB : g_Bw B0 (wX x y cI cJ cZ C N S Qk Z)) : g_CtX l D cI cJ cZ B0 yX6_count cX6_count 2 (some .int) rm_X6_countX 1 6 [.ref (x 0), .int v] (wX x y cI cJ cZ C N S Qk Z) (fun _ _ => False) (fun E w => E = eC (cR1 v (nI 0) (nI 4)) ∧ w = wX x y cI cJ cZ C N S Qk Z) := by
  refine g_bodyX RX6 [(0, .ref (x 0)), (1, .int v)] kH_X6 rfl (Nat.le_of_ble_eq_true rfl) rfl hB ?_
  intro p e s m args below meth c A X Y hT hr hlk hmn Q hQ
  refine g_iload_n X 1 dX6_count_0 rfl rfl ?_
  refine g_iconst X (v := nI 0) dX6_count_1 (by decide +kernel) ?_
  refine g_iconst X (v := nI 4) dX6_count_2 (by decide +kernel) ?_
  by_cases hok1 : inB v (nI 0) (nI 4) = true
  · --
    refine g_callS X (As := [.int v, .int (nI 0), .int (nI 4)]) (rest := []) (m_X6_requireRange l D cI cJ cZ v (nI 0) (nI 4) hok1) kM_X6_24 kT_yX6_requireRange kZ_RX6 kC_yX6_requireRange hV_X6_requireRange rfl rfl rfl ⟨Nat.le_of_ble_eq_true rfl, Nat.le_of_ble_eq_true rfl⟩ ⟨Nat.le_of_ble_eq_true rfl, Nat.le_of_ble_eq_true rfl⟩ (Nat.le_of_ble_eq_true rfl) dX6_count_3 rfl [] rfl rfl (g_kk1 (w2 := wX x y cI cJ cZ C N S Qk Z) em0 ?_)
    refine absurd ?_ hc1
    (try clear evn); (try clear eqn)
    unfold cR1
    (repeat' split) <;> first | rfl | (exfalso; simp_all; done)
  · --
    refine g_callSX X Y hT hlk hQ (As := [.int v, .int (nI 0), .int (nI 4)]) (rest := []) (m_X6_requireRangeX l hl0 D cI cJ cZ B0 v (nI 0) (nI 4) (eq_false_of_ne_true hok1)) kM_X6_24 kT_yX6_requireRange kZ_RX6 kC_yX6_requireRange hV_X6_requireRange rfl rfl rfl ⟨Nat.le_of_ble_eq_true rfl, Nat.le_of_ble_eq_true rfl⟩ ⟨Nat.le_of_ble_eq_true rfl, Nat.le_of_ble_eq_true rfl⟩ (Nat.le_of_ble_eq_true rfl) dX6_count_3 rfl em0 (Nat.le_of_ble_eq_true rfl) (Nat.le_of_ble_eq_true rfl) ?_
    refine ⟨?_, rfl⟩
    (try clear evn); (try clear eqn)
    unfold cR1
    (repeat' split) <;> first | (exfalso; simp_all; done) | rfl
theorem hV_X6_sum : yX6_sum.cls = RX6 ∧ yX6_sum.cls ≠ "java/lang/invoke/MethodHandle" ∧ yX6_sum.cls ≠ "java/lang/invoke/VarHandle" ∧ (parseMethodDescriptor yX6_sum.desc).map (fun d => d.parameters.length) = some 1 := by decide +kernel
abbrev rm_X6_sum : Room := { frames := 2, cells := 0, slots := 0, locals := 42 }
set_option maxRecDepth 100000 in
set_option maxHeartbeats 4000000 in
theorem m_X6_sum (l : Launch) (D : va_G) (cI cJ cZ : ClassId) (x : Nat → Nat) (y : Nat) (C : Cf) (N : Nat → Nat) (S : St) (Qk : Nat → Int64) (Z : St) (v : Int32)  (hc0 : cR1 v (nI 0) (nI 7) = 0) : g_Ct l D cI cJ cZ yX6_sum cX6_sum 2 (some .long) rm_X6_sum 0 0 [.ref (x 0), .int v] (wX x y cI cJ cZ C N S Qk Z) (g_eq (some (.long (smM S v))) (wX x y cI cJ cZ C N S Qk Z)) := by
  refine g_body RX6 [(0, .ref (x 0)), (1, .int v)] kH_X6 rfl (Nat.le_of_ble_eq_true rfl) rfl ?_
  intro p e s m args below meth c A X hr hlk hmn Q hQ
  have hk0 := cR1_0 hc0
  refine g_iload_n X 1 dX6_sum_0 rfl rfl ?_
  refine g_iconst X (v := nI 0) dX6_sum_1 (by decide +kernel) ?_
  refine g_bipush X (v := nI 7) dX6_sum_2 (by decide +kernel) ?_
  refine g_callS X (As := [.int v, .int (nI 0), .int (nI 7)]) (rest := []) (m_X6_requireRange l D cI cJ cZ v (nI 0) (nI 7) (by assumption)) kM_X6_24 kT_yX6_requireRange kZ_RX6 kC_yX6_requireRange hV_X6_requireRange rfl rfl rfl ⟨Nat.le_of_ble_eq_true rfl, Nat.le_of_ble_eq_true rfl⟩ ⟨Nat.le_of_ble_eq_true rfl, Nat.le_of_ble_eq_true rfl⟩ (Nat.le_of_ble_eq_true rfl) dX6_sum_4 rfl [] rfl (by decide +kernel) (g_kk1 (w2 := wX x y cI cJ cZ C N S Qk Z) em0 ?_)
  refine g_iload_n X 1 dX6_sum_7 rfl rfl ?_
  obtain ⟨hvn, evn⟩ := inB_k (v := v) (n := 7) (by decide) (by assumption)
  refine g_if_ne X (tgt := 24) dX6_sum_8 (by decide) (fun h1 => ?_) (fun h1 => ?_)
  · --
    refine g_aload_n X 0 dX6_sum_24 rfl rfl ?_
    refine g_get X (C := RX6) (T := TX6) (N := 2) (v := .ref (x 1)) inlX6 0 rfl rfl 0 (Nat.le_of_ble_eq_true rfl) kF_X6_10 rfl dX6_sum_25 ?_
    refine g_get X (C := RX0) (T := TX0) (N := 11) (v := .ref (x 35)) inlX0 1 rfl rfl 7 (Nat.le_of_ble_eq_true rfl) kF_X6_146 rfl dX6_sum_28 ?_
    refine g_iload_n X 1 dX6_sum_31 rfl rfl ?_
    refine g_lald X 35 rfl (nN v) evn (by omega) (Nat.le_of_ble_eq_true rfl) (v := S 12 (nN v)) rfl dX6_sum_32 ?_
    refine g_lret X hr hlk hQ dX6_sum_33 ?_
    show g_eq _ _ _ _
    unfold smM
    first | (rw [if_neg (by assumption)]; exact ⟨rfl, rfl⟩) | (rw [if_pos (by assumption)]; exact ⟨rfl, rfl⟩)
  · --
    refine g_aload_n X 0 dX6_sum_11 rfl rfl ?_
    refine g_get X (C := RX6) (T := TX6) (N := 2) (v := .ref (x 1)) inlX6 0 rfl rfl 0 (Nat.le_of_ble_eq_true rfl) kF_X6_10 rfl dX6_sum_12 ?_
    refine g_get X (C := RX0) (T := TX0) (N := 11) (v := .ref (x 2)) inlX0 1 rfl rfl 2 (Nat.le_of_ble_eq_true rfl) kF_X6_36 rfl dX6_sum_15 ?_
    refine g_callV X (As := []) (rest := []) (m_X1_allWater l D cI cJ cZ (fun i => x (2 + i)) C S Z  ) kM_X6_142 kI_yX1_allWater kS_yX1_allWater kZ_RX1 kC_yX1_allWater hV_X1_allWater rfl rfl rfl 0 rfl (ci := 1) rfl ⟨Nat.le_of_ble_eq_true rfl, Nat.le_of_ble_eq_true rfl⟩ ⟨Nat.le_of_ble_eq_true rfl, Nat.le_of_ble_eq_true rfl⟩ (Nat.le_of_ble_eq_true rfl) dX6_sum_18 rfl (em_I 2 10 12 0) (em_C (by decide) (Nat.le_of_ble_eq_true rfl) rfl) (em_nd (by decide)) (g_kk1 (w2 := wX x y cI cJ cZ C N S Qk Z) (em3 2 10 12 0 (by decide) (Nat.le_of_ble_eq_true rfl) rfl rfl rfl) ?_)
    refine g_goto X (tgt := 33) dX6_sum_21 (by decide) ?_
    refine g_lret X hr hlk hQ dX6_sum_33 ?_
    show g_eq _ _ _ _
    unfold smM
    first | (rw [if_neg (by assumption)]; exact ⟨rfl, rfl⟩) | (rw [if_pos (by assumption)]; exact ⟨rfl, rfl⟩)
abbrev rm_X6_sumX : Room := { frames := 8, cells := 1, slots := 6, locals := 124 }
set_option maxRecDepth 100000 in
set_option maxHeartbeats 4000000 in
theorem m_X6_sumX (l : Launch) (hl0 : l.stackTraces = false) (D : va_G) (cI cJ cZ : ClassId) (B0 : Nat) (x : Nat → Nat) (y : Nat) (C : Cf) (N : Nat → Nat) (S : St) (Qk : Nat → Int64) (Z : St) (v : Int32)  (hc1 : ¬ cR1 v (nI 0) (nI 7) = 0) (hB : g_Bw B0 (wX x y cI cJ cZ C N S Qk Z)) : g_CtX l D cI cJ cZ B0 yX6_sum cX6_sum 2 (some .long) rm_X6_sumX 1 6 [.ref (x 0), .int v] (wX x y cI cJ cZ C N S Qk Z) (fun _ _ => False) (fun E w => E = eC (cR1 v (nI 0) (nI 7)) ∧ w = wX x y cI cJ cZ C N S Qk Z) := by
  refine g_bodyX RX6 [(0, .ref (x 0)), (1, .int v)] kH_X6 rfl (Nat.le_of_ble_eq_true rfl) rfl hB ?_
  intro p e s m args below meth c A X Y hT hr hlk hmn Q hQ
  refine g_iload_n X 1 dX6_sum_0 rfl rfl ?_
  refine g_iconst X (v := nI 0) dX6_sum_1 (by decide +kernel) ?_
  refine g_bipush X (v := nI 7) dX6_sum_2 (by decide +kernel) ?_
  by_cases hok1 : inB v (nI 0) (nI 7) = true
  · --
    refine g_callS X (As := [.int v, .int (nI 0), .int (nI 7)]) (rest := []) (m_X6_requireRange l D cI cJ cZ v (nI 0) (nI 7) hok1) kM_X6_24 kT_yX6_requireRange kZ_RX6 kC_yX6_requireRange hV_X6_requireRange rfl rfl rfl ⟨Nat.le_of_ble_eq_true rfl, Nat.le_of_ble_eq_true rfl⟩ ⟨Nat.le_of_ble_eq_true rfl, Nat.le_of_ble_eq_true rfl⟩ (Nat.le_of_ble_eq_true rfl) dX6_sum_4 rfl [] rfl rfl (g_kk1 (w2 := wX x y cI cJ cZ C N S Qk Z) em0 ?_)
    refine absurd ?_ hc1
    (try clear evn); (try clear eqn)
    unfold cR1
    (repeat' split) <;> first | rfl | (exfalso; simp_all; done)
  · --
    refine g_callSX X Y hT hlk hQ (As := [.int v, .int (nI 0), .int (nI 7)]) (rest := []) (m_X6_requireRangeX l hl0 D cI cJ cZ B0 v (nI 0) (nI 7) (eq_false_of_ne_true hok1)) kM_X6_24 kT_yX6_requireRange kZ_RX6 kC_yX6_requireRange hV_X6_requireRange rfl rfl rfl ⟨Nat.le_of_ble_eq_true rfl, Nat.le_of_ble_eq_true rfl⟩ ⟨Nat.le_of_ble_eq_true rfl, Nat.le_of_ble_eq_true rfl⟩ (Nat.le_of_ble_eq_true rfl) dX6_sum_4 rfl em0 (Nat.le_of_ble_eq_true rfl) (Nat.le_of_ble_eq_true rfl) ?_
    refine ⟨?_, rfl⟩
    (try clear evn); (try clear eqn)
    unfold cR1
    (repeat' split) <;> first | (exfalso; simp_all; done) | rfl
theorem hV_X6_pass : yX6_pass.cls = RX6 ∧ yX6_pass.cls ≠ "java/lang/invoke/MethodHandle" ∧ yX6_pass.cls ≠ "java/lang/invoke/VarHandle" ∧ (parseMethodDescriptor yX6_pass.desc).map (fun d => d.parameters.length) = some 1 := by decide +kernel
abbrev rm_X6_pass : Room := { frames := 6, cells := 0, slots := 0, locals := 138 }
set_option maxRecDepth 100000 in
set_option maxHeartbeats 4000000 in
theorem m_X6_pass (l : Launch) (D : va_G) (cI cJ cZ : ClassId) (x : Nat → Nat) (y : Nat) (C : Cf) (N : Nat → Nat) (S : St) (Qk : Nat → Int64) (Z : St) (v : Int32) (hC : Cok C N) (hR : Rok C) (hX : Xok C) (hI : ∀ i, i ≤ 24 → MonOk C N (mnS C N S i)) (hM : 0 ≤ (S 13 0).toInt ∧ (S 13 0).toInt ≤ 1000) (hc0 : cP2 S v = 0) : g_Ct l D cI cJ cZ yX6_pass cX6_pass 3 (some .int) rm_X6_pass 0 0 [.ref (x 0), .int v] (wX x y cI cJ cZ C N S Qk Z) (g_eq (some (.int ((mnS C N S (nN v) 13 0).toInt32))) (wX x y cI cJ cZ C N (mnS C N S (nN v)) (mnQ C N S Qk (nN v)) (mnZ C N S Z (nN v)))) := by
  refine g_body RX6 [(0, .ref (x 0)), (1, .int v)] kH_X6 rfl (Nat.le_of_ble_eq_true rfl) rfl ?_
  intro p e s m args below meth c A X hr hlk hmn Q hQ
  have hk0 := cP2_0 hc0
  obtain ⟨h0a, h0b⟩ := hk0
  refine g_iload_n X 1 dX6_pass_0 rfl rfl ?_
  refine g_iconst X (v := nI 1) dX6_pass_1 (by decide +kernel) ?_
  refine g_bipush X (v := nI 24) dX6_pass_2 (by decide +kernel) ?_
  refine g_callS X (As := [.int v, .int (nI 1), .int (nI 24)]) (rest := []) (m_X6_requireRange l D cI cJ cZ v (nI 1) (nI 24) (by assumption)) kM_X6_24 kT_yX6_requireRange kZ_RX6 kC_yX6_requireRange hV_X6_requireRange rfl rfl rfl ⟨Nat.le_of_ble_eq_true rfl, Nat.le_of_ble_eq_true rfl⟩ ⟨Nat.le_of_ble_eq_true rfl, Nat.le_of_ble_eq_true rfl⟩ (Nat.le_of_ble_eq_true rfl) dX6_pass_4 rfl [] rfl (by decide +kernel) (g_kk1 (w2 := wX x y cI cJ cZ C N S Qk Z) em0 ?_)
  refine g_aload_n X 0 dX6_pass_7 rfl rfl ?_
  refine g_get X (C := RX6) (T := TX6) (N := 2) (v := .ref (x 1)) inlX6 0 rfl rfl 0 (Nat.le_of_ble_eq_true rfl) kF_X6_10 rfl dX6_pass_8 ?_
  refine g_get X (C := RX0) (T := TX0) (N := 11) (v := .int ((S 13 0).toInt32)) inlX0 1 rfl rfl 0 (Nat.le_of_ble_eq_true rfl) kF_X6_28 rfl dX6_pass_11 ?_
  refine g_iload_n X 1 dX6_pass_14 rfl rfl ?_
  refine g_iadd X (v := ((S 13 0).toInt32) + v) dX6_pass_15 rfl ?_
  refine g_sipush X (v := nI 600) dX6_pass_16 (by decide +kernel) ?_
  have J3 : ∀ (v2 : Bool), v2 = (if (nI 600) < (((S 13 0).toInt32) + v) then false else true) → g_G p l e rm_X6_pass s m args below meth c D A 3 0 0 Q (wX x y cI cJ cZ C N S Qk Z) [(0, .ref (x 0)), (1, .int v)] 27 [.int (bI v2)] := by
    intro v2 ev2
    replace ev2 := ev2.trans (show _ = decide (S 13 0 + v.toInt64 ≤ 600) from pa_z hM (by assumption))
    refine g_callS X (As := [.int (bI v2)]) (rest := []) (m_X6_requireState l D cI cJ cZ v2 (by rw [ev2]; exact decide_eq_true h0b)) kM_X6_32 kT_yX6_requireState kZ_RX6 kC_yX6_requireState hV_X6_requireState rfl rfl rfl ⟨Nat.le_of_ble_eq_true rfl, Nat.le_of_ble_eq_true rfl⟩ ⟨Nat.le_of_ble_eq_true rfl, Nat.le_of_ble_eq_true rfl⟩ (Nat.le_of_ble_eq_true rfl) dX6_pass_27 rfl [] rfl (by decide +kernel) (g_kk1 (w2 := wX x y cI cJ cZ C N S Qk Z) em0 ?_)
    obtain ⟨hvn, evn⟩ := inB_k (v := v) (n := 24) (by decide) (inB_1 h0a)
    refine g_lvq (lv' := [(0, .ref (x 0)), (1, .int (nI (nN v)))]) (by rw [← evn]; first | done | rfl) ?_
    refine g_iconst X (v := nI 0) dX6_pass_30 (by decide +kernel) ?_
    refine g_istore_n X [(2, .int (nI 0)), (0, .ref (x 0)), (1, .int (nI (nN v)))] dX6_pass_31 rfl (Nat.le_of_ble_eq_true rfl) rfl ?_
    have L4 : ∀ (n6 i5 : Nat) (S7 : St) (Qk8 : Nat → Int64) (X9 : St), i5 + n6 = (nN v) → S7 = mnS C N S i5 → Qk8 = mnQ C N S Qk i5 → X9 = mnZ C N S Z i5 → g_G p l e rm_X6_pass s m args below meth c D A 3 0 0 Q (wX x y cI cJ cZ C N S7 Qk8 X9) [(0, .ref (x 0)), (1, .int (nI (nN v))), (2, .int (nI i5))] 32 [] := by
      intro n6
      induction n6 with
      | zero =>
        intro i5 S7 Qk8 X9 hi10 eS7 eQk8 eX9
        obtain rfl : i5 = (nN v) := by omega
        refine g_iload_n X 2 dX6_pass_32 rfl rfl ?_
        refine g_iload_n X 1 dX6_pass_33 rfl rfl ?_
        refine g_icN_ge X (a := (nN v)) (b := nN v) (tgt := 50) (by omega) (by omega) dX6_pass_34 (by decide) (fun h11 => ?_) (fun h11 => absurd h11 (by omega))
        refine g_aload_n X 0 dX6_pass_50 rfl rfl ?_
        refine g_get X (C := RX6) (T := TX6) (N := 2) (v := .ref (x 1)) inlX6 0 rfl rfl 0 (Nat.le_of_ble_eq_true rfl) kF_X6_10 rfl dX6_pass_51 ?_
        refine g_get X (C := RX0) (T := TX0) (N := 11) (v := .int ((S7 13 0).toInt32)) inlX0 1 rfl rfl 0 (Nat.le_of_ble_eq_true rfl) kF_X6_28 rfl dX6_pass_54 ?_
        refine g_iret X hr hlk hQ dX6_pass_57 ?_
        show g_eq _ _ _ _
        try rw [eX9]
        try rw [eQk8]
        try rw [eS7]
        try rw [ev2]
        exact ⟨rfl, rfl⟩
      | succ n6 ihL4 =>
        intro i5 S7 Qk8 X9 hi10 eS7 eQk8 eX9
        have hlti5 : i5 < (nN v) := by omega
        obtain ⟨k, hWk, hk0, hk1, hWe, hmo, hqo, hBo⟩ := hI i5 (by omega)
        rw [← eS7] at hWk hWe hmo hqo hBo
        refine g_iload_n X 2 dX6_pass_32 rfl rfl ?_
        refine g_iload_n X 1 dX6_pass_33 rfl rfl ?_
        refine g_icN_ge X (a := i5) (b := nN v) (tgt := 50) (by omega) (by omega) dX6_pass_34 (by decide) (fun h12 => absurd h12 (by omega)) (fun h12 => ?_)
        refine g_aload_n X 0 dX6_pass_37 rfl rfl ?_
        refine g_get X (C := RX6) (T := TX6) (N := 2) (v := .ref (x 1)) inlX6 0 rfl rfl 0 (Nat.le_of_ble_eq_true rfl) kF_X6_10 rfl dX6_pass_38 ?_
        obtain ⟨S13, eS13⟩ : ∃ z : St, z = monS C N S7 := ⟨_, rfl⟩
        obtain ⟨Qk14, eQk14⟩ : ∃ z : Nat → Int64, z = monQ C N S7 Qk8 := ⟨_, rfl⟩
        obtain ⟨X15, eX15⟩ : ∃ z : St, z = monZ C N S7 X9 := ⟨_, rfl⟩
        refine g_callV X (As := []) (rest := []) (m_X0_passMonth l D cI cJ cZ (fun i => x (1 + i)) C N S7 Qk8 X9 k hC hR hWk hk0 hk1 hWe hmo hqo hX) kM_X6_114 kI_yX0_passMonth kS_yX0_passMonth kZ_RX0 kC_yX0_passMonth hV_X0_passMonth rfl rfl rfl 0 rfl (ci := 0) rfl ⟨Nat.le_of_ble_eq_true rfl, Nat.le_of_ble_eq_true rfl⟩ ⟨Nat.le_of_ble_eq_true rfl, Nat.le_of_ble_eq_true rfl⟩ (Nat.le_of_ble_eq_true rfl) dX6_pass_41 rfl (em_I 1 35 36 0) (em_C (by decide) (Nat.le_of_ble_eq_true rfl) rfl) (em_nd (by decide)) (g_kk1 (w2 := wX x y cI cJ cZ C N S13 Qk14 X15) (by rw [eX15]; rw [eQk14]; rw [eS13]; exact (em3 1 35 36 0 (by decide) (Nat.le_of_ble_eq_true rfl) rfl rfl rfl)) ?_)
        refine g_iinc X [(2, .int (nI (i5 + 1))), (0, .ref (x 0)), (1, .int (nI (nN v)))] (q := 2) (v := nI (i5 + 1)) dX6_pass_44 rfl ((congrArg (fun z => nI (i5) + z) (show Int32.ofInt 1 = nI 1 by decide +kernel)).trans ((nI_add _ _).trans (congrArg nI (by omega)))) (Nat.le_of_ble_eq_true rfl) rfl ?_
        refine g_goto X (tgt := 32) dX6_pass_47 (by decide) ?_
        refine g_lv _ [1, 2, 0] rfl ?_
        exact ihL4 (i5 + 1) _ _ _ (by omega) (by (try rw [eX15]); (try rw [eQk14]); (try rw [eS13]); (try rw [eX9]); (try rw [eQk8]); (try rw [eS7]); first | done | (rw [mnS_s])) (by (try rw [eX15]); (try rw [eQk14]); (try rw [eS13]); (try rw [eX9]); (try rw [eQk8]); (try rw [eS7]); first | done | (rw [mnQ_s])) (by (try rw [eX15]); (try rw [eQk14]); (try rw [eS13]); (try rw [eX9]); (try rw [eQk8]); (try rw [eS7]); first | done | (rw [mnZ_s]))
    refine g_lv _ [1, 2, 0] rfl ?_
    exact L4 ((nN v)) 0 _ _ _ (by omega) (mnS_0 _ _ _).symm (mnQ_0 _ _ _ _).symm (mnZ_0 _ _ _ _).symm
  refine g_icmp_gt X (tgt := 26) dX6_pass_19 (by decide) (fun h1 => ?_) (fun h1 => ?_)
  · --
    refine g_iconst X (v := nI 0) dX6_pass_26 (by decide +kernel) ?_
    exact J3 _ (by rw [if_pos (c := (nI 600) < (((S 13 0).toInt32) + v)) h1])
  · --
    refine g_iconst X (v := nI 1) dX6_pass_22 (by decide +kernel) ?_
    refine g_goto X (tgt := 27) dX6_pass_23 (by decide) ?_
    exact J3 _ (by rw [if_neg (c := (nI 600) < (((S 13 0).toInt32) + v)) h1])
abbrev rm_X6_passX : Room := { frames := 8, cells := 1, slots := 6, locals := 124 }
set_option maxRecDepth 100000 in
set_option maxHeartbeats 4000000 in
theorem m_X6_passX (l : Launch) (hl0 : l.stackTraces = false) (D : va_G) (cI cJ cZ : ClassId) (B0 : Nat) (x : Nat → Nat) (y : Nat) (C : Cf) (N : Nat → Nat) (S : St) (Qk : Nat → Int64) (Z : St) (v : Int32) (hC : Cok C N) (hR : Rok C) (hX : Xok C) (hI : ∀ i, i ≤ 24 → MonOk C N (mnS C N S i)) (hM : 0 ≤ (S 13 0).toInt ∧ (S 13 0).toInt ≤ 1000) (hc1 : ¬ cP2 S v = 0) (hB : g_Bw B0 (wX x y cI cJ cZ C N S Qk Z)) : g_CtX l D cI cJ cZ B0 yX6_pass cX6_pass 3 (some .int) rm_X6_passX 1 6 [.ref (x 0), .int v] (wX x y cI cJ cZ C N S Qk Z) (fun _ _ => False) (fun E w => E = eC (cP2 S v) ∧ w = wX x y cI cJ cZ C N S Qk Z) := by
  refine g_bodyX RX6 [(0, .ref (x 0)), (1, .int v)] kH_X6 rfl (Nat.le_of_ble_eq_true rfl) rfl hB ?_
  intro p e s m args below meth c A X Y hT hr hlk hmn Q hQ
  refine g_iload_n X 1 dX6_pass_0 rfl rfl ?_
  refine g_iconst X (v := nI 1) dX6_pass_1 (by decide +kernel) ?_
  refine g_bipush X (v := nI 24) dX6_pass_2 (by decide +kernel) ?_
  by_cases hok1 : inB v (nI 1) (nI 24) = true
  · --
    refine g_callS X (As := [.int v, .int (nI 1), .int (nI 24)]) (rest := []) (m_X6_requireRange l D cI cJ cZ v (nI 1) (nI 24) hok1) kM_X6_24 kT_yX6_requireRange kZ_RX6 kC_yX6_requireRange hV_X6_requireRange rfl rfl rfl ⟨Nat.le_of_ble_eq_true rfl, Nat.le_of_ble_eq_true rfl⟩ ⟨Nat.le_of_ble_eq_true rfl, Nat.le_of_ble_eq_true rfl⟩ (Nat.le_of_ble_eq_true rfl) dX6_pass_4 rfl [] rfl rfl (g_kk1 (w2 := wX x y cI cJ cZ C N S Qk Z) em0 ?_)
    refine g_aload_n X 0 dX6_pass_7 rfl rfl ?_
    refine g_get X (C := RX6) (T := TX6) (N := 2) (v := .ref (x 1)) inlX6 0 rfl rfl 0 (Nat.le_of_ble_eq_true rfl) kF_X6_10 rfl dX6_pass_8 ?_
    refine g_get X (C := RX0) (T := TX0) (N := 11) (v := .int ((S 13 0).toInt32)) inlX0 1 rfl rfl 0 (Nat.le_of_ble_eq_true rfl) kF_X6_28 rfl dX6_pass_11 ?_
    refine g_iload_n X 1 dX6_pass_14 rfl rfl ?_
    refine g_iadd X (v := ((S 13 0).toInt32) + v) dX6_pass_15 rfl ?_
    refine g_sipush X (v := nI 600) dX6_pass_16 (by decide +kernel) ?_
    have J4 : ∀ (v3 : Bool), v3 = (if (nI 600) < (((S 13 0).toInt32) + v) then false else true) → g_G p l e rm_X6_passX s m args below meth c D A 3 0 0 Q (wX x y cI cJ cZ C N S Qk Z) [(0, .ref (x 0)), (1, .int v)] 27 [.int (bI v3)] := by
      intro v3 ev3
      replace ev3 := ev3.trans (show _ = decide (S 13 0 + v.toInt64 ≤ 600) from pa_z hM (by assumption))
      by_cases hok5 : v3 = true
      · --
        refine g_callS X (As := [.int (bI v3)]) (rest := []) (m_X6_requireState l D cI cJ cZ v3 hok5) kM_X6_32 kT_yX6_requireState kZ_RX6 kC_yX6_requireState hV_X6_requireState rfl rfl rfl ⟨Nat.le_of_ble_eq_true rfl, Nat.le_of_ble_eq_true rfl⟩ ⟨Nat.le_of_ble_eq_true rfl, Nat.le_of_ble_eq_true rfl⟩ (Nat.le_of_ble_eq_true rfl) dX6_pass_27 rfl [] rfl rfl (g_kk1 (w2 := wX x y cI cJ cZ C N S Qk Z) em0 ?_)
        rw [ev3] at *
        refine absurd ?_ hc1
        (try clear evn); (try clear eqn)
        unfold cP2
        (repeat' split) <;> first | rfl | (exfalso; simp_all; done)
      · --
        refine g_callSX X Y hT hlk hQ (As := [.int (bI v3)]) (rest := []) (m_X6_requireStateX l hl0 D cI cJ cZ B0 v3 (eq_false_of_ne_true hok5)) kM_X6_32 kT_yX6_requireState kZ_RX6 kC_yX6_requireState hV_X6_requireState rfl rfl rfl ⟨Nat.le_of_ble_eq_true rfl, Nat.le_of_ble_eq_true rfl⟩ ⟨Nat.le_of_ble_eq_true rfl, Nat.le_of_ble_eq_true rfl⟩ (Nat.le_of_ble_eq_true rfl) dX6_pass_27 rfl em0 (Nat.le_of_ble_eq_true rfl) (Nat.le_of_ble_eq_true rfl) ?_
        rw [ev3] at *
        refine ⟨?_, rfl⟩
        (try clear evn); (try clear eqn)
        unfold cP2
        (repeat' split) <;> first | (exfalso; simp_all; done) | rfl
    refine g_icmp_gt X (tgt := 26) dX6_pass_19 (by decide) (fun h2 => ?_) (fun h2 => ?_)
    · --
      refine g_iconst X (v := nI 0) dX6_pass_26 (by decide +kernel) ?_
      exact J4 _ (by rw [if_pos (c := (nI 600) < (((S 13 0).toInt32) + v)) h2])
    · --
      refine g_iconst X (v := nI 1) dX6_pass_22 (by decide +kernel) ?_
      refine g_goto X (tgt := 27) dX6_pass_23 (by decide) ?_
      exact J4 _ (by rw [if_neg (c := (nI 600) < (((S 13 0).toInt32) + v)) h2])
  · --
    refine g_callSX X Y hT hlk hQ (As := [.int v, .int (nI 1), .int (nI 24)]) (rest := []) (m_X6_requireRangeX l hl0 D cI cJ cZ B0 v (nI 1) (nI 24) (eq_false_of_ne_true hok1)) kM_X6_24 kT_yX6_requireRange kZ_RX6 kC_yX6_requireRange hV_X6_requireRange rfl rfl rfl ⟨Nat.le_of_ble_eq_true rfl, Nat.le_of_ble_eq_true rfl⟩ ⟨Nat.le_of_ble_eq_true rfl, Nat.le_of_ble_eq_true rfl⟩ (Nat.le_of_ble_eq_true rfl) dX6_pass_4 rfl em0 (Nat.le_of_ble_eq_true rfl) (Nat.le_of_ble_eq_true rfl) ?_
    refine ⟨?_, rfl⟩
    (try clear evn); (try clear eqn)
    unfold cP2
    (repeat' split) <;> first | (exfalso; simp_all; done) | rfl
