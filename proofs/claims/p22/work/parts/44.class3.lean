theorem cO2_a {C : Cf} {n : Nat} {v q : Int32} (h : cO2 C n v q = 0) : inB v (nI 0) (nI n - nI 1) = true ∧ inB q (nI 0) (nI (if C 3 (nN v) = 0 then 1000 else 10)) = true := by
  unfold cO2 at h
  (repeat' split at h) <;> simp_all

theorem hV_X6_open : yX6_open.cls = RX6 ∧ yX6_open.cls ≠ "java/lang/invoke/MethodHandle" ∧ yX6_open.cls ≠ "java/lang/invoke/VarHandle" ∧ (parseMethodDescriptor yX6_open.desc).map (fun d => d.parameters.length) = some 2 := by decide +kernel
abbrev rm_X6_open : Room := { frames := 2, cells := 0, slots := 0, locals := 42 }
set_option maxRecDepth 100000 in
set_option maxHeartbeats 4000000 in
theorem m_X6_open (l : Launch) (D : va_G) (cI cJ cZ : ClassId) (x : Nat → Nat) (y : Nat) (C : Cf) (N : Nat → Nat) (S : St) (Qk : Nat → Int64) (Z : St) (v q : Int32) (hC : Cok C N) (hc0 : cO2 C (N 0) v q = 0) : g_Ct l D cI cJ cZ yX6_open cX6_open 4 (some .int) rm_X6_open 0 0 [.ref (x 0), .int v, .int q] (wX x y cI cJ cZ C N S Qk Z) (g_eq (some (.int (C 4 (nN v)))) (wX x y cI cJ cZ (c2 C 4 (nN v) q) N S Qk Z)) := by
  refine g_body RX6 [(0, .ref (x 0)), (1, .int v), (2, .int q)] kH_X6 rfl (Nat.le_of_ble_eq_true rfl) rfl ?_
  intro p e s m args below meth c A X hr hlk hmn Q hQ
  have hN0 := hC.n0
  have hN1 := hC.n1
  have hN2 := hC.n2
  have hk0 := cO2_a hc0
  obtain ⟨h0a, h0b⟩ := hk0
  refine g_iload_n X 1 dX6_open_0 rfl rfl ?_
  refine g_aload_n X 0 dX6_open_1 rfl rfl ?_
  refine g_get X (C := RX6) (T := TX6) (N := 2) (v := .ref (x 1)) inlX6 0 rfl rfl 0 (Nat.le_of_ble_eq_true rfl) kF_X6_10 rfl dX6_open_2 ?_
  refine g_get X (C := RX0) (T := TX0) (N := 11) (v := .ref (x 12)) inlX0 1 rfl rfl 3 (Nat.le_of_ble_eq_true rfl) kF_X6_63 rfl dX6_open_5 ?_
  refine g_get X (C := RX5) (T := TX5) (N := 9) (v := .int (nI (N 0))) inlX5 12 rfl rfl 0 (Nat.le_of_ble_eq_true rfl) kF_X6_67 rfl dX6_open_8 ?_
  refine g_callS X (As := [.int v, .int (nI (N 0))]) (rest := []) (m_X6_requireIndex l D cI cJ cZ v (N 0) (nI (N 0) - nI 1) rfl (by omega) (by assumption)) kM_X6_19 kT_yX6_requireIndex kZ_RX6 kC_yX6_requireIndex hV_X6_requireIndex rfl rfl rfl ⟨Nat.le_of_ble_eq_true rfl, Nat.le_of_ble_eq_true rfl⟩ ⟨Nat.le_of_ble_eq_true rfl, Nat.le_of_ble_eq_true rfl⟩ (Nat.le_of_ble_eq_true rfl) dX6_open_11 rfl [] rfl (by decide +kernel) (g_kk1 (w2 := wX x y cI cJ cZ C N S Qk Z) em0 ?_)
  refine g_iload_n X 2 dX6_open_14 rfl rfl ?_
  refine g_iconst X (v := nI 0) dX6_open_15 (by decide +kernel) ?_
  refine g_aload_n X 0 dX6_open_16 rfl rfl ?_
  refine g_get X (C := RX6) (T := TX6) (N := 2) (v := .ref (x 1)) inlX6 0 rfl rfl 0 (Nat.le_of_ble_eq_true rfl) kF_X6_10 rfl dX6_open_17 ?_
  refine g_get X (C := RX0) (T := TX0) (N := 11) (v := .ref (x 12)) inlX0 1 rfl rfl 3 (Nat.le_of_ble_eq_true rfl) kF_X6_63 rfl dX6_open_20 ?_
  refine g_get X (C := RX5) (T := TX5) (N := 9) (v := .ref (x 14)) inlX5 12 rfl rfl 2 (Nat.le_of_ble_eq_true rfl) kF_X6_76 rfl dX6_open_23 ?_
  refine g_iload_n X 1 dX6_open_26 rfl rfl ?_
  obtain ⟨hvn, evn⟩ := inB_m (v := v) (n := N 0) (by omega) (by assumption)
  refine g_zald X 14 rfl (nN v) evn (by omega) (Nat.le_of_ble_eq_true rfl) (v := C 3 (nN v)) rfl dX6_open_27 ?_
  have J3 : ∀ (v2 : Nat), v2 = (if (C 3 (nN v)) = 0 then 1000 else 10) → g_G p l e rm_X6_open s m args below meth c D A 4 0 0 Q (wX x y cI cJ cZ C N S Qk Z) [(0, .ref (x 0)), (1, .int v), (2, .int q)] 39 [.int (nI v2), .int (nI 0), .int q] := by
    intro v2 ev2
    have bv2 : v2 < 2147483648 := by subst ev2; (repeat' split) <;> omega
    replace ev2 := ev2.trans (show _ = (if C 3 (nN v) = 0 then 1000 else 10) from rfl)
    refine g_callS X (As := [.int q, .int (nI 0), .int (nI v2)]) (rest := []) (m_X6_requireRange l D cI cJ cZ q (nI 0) (nI v2) (by rw [ev2]; exact h0b)) kM_X6_24 kT_yX6_requireRange kZ_RX6 kC_yX6_requireRange hV_X6_requireRange rfl rfl rfl ⟨Nat.le_of_ble_eq_true rfl, Nat.le_of_ble_eq_true rfl⟩ ⟨Nat.le_of_ble_eq_true rfl, Nat.le_of_ble_eq_true rfl⟩ (Nat.le_of_ble_eq_true rfl) dX6_open_39 rfl [] rfl (by decide +kernel) (g_kk1 (w2 := wX x y cI cJ cZ C N S Qk Z) em0 ?_)
    refine g_aload_n X 0 dX6_open_42 rfl rfl ?_
    refine g_get X (C := RX6) (T := TX6) (N := 2) (v := .ref (x 1)) inlX6 0 rfl rfl 0 (Nat.le_of_ble_eq_true rfl) kF_X6_10 rfl dX6_open_43 ?_
    refine g_get X (C := RX0) (T := TX0) (N := 11) (v := .ref (x 12)) inlX0 1 rfl rfl 3 (Nat.le_of_ble_eq_true rfl) kF_X6_63 rfl dX6_open_46 ?_
    refine g_get X (C := RX5) (T := TX5) (N := 9) (v := .ref (x 15)) inlX5 12 rfl rfl 3 (Nat.le_of_ble_eq_true rfl) kF_X6_80 rfl dX6_open_49 ?_
    refine g_iload_n X 1 dX6_open_52 rfl rfl ?_
    refine g_iald X 15 rfl (nN v) evn (by omega) (Nat.le_of_ble_eq_true rfl) (v := C 4 (nN v)) rfl dX6_open_53 ?_
    refine g_istore_n X [(3, .int (C 4 (nN v))), (0, .ref (x 0)), (1, .int v), (2, .int q)] dX6_open_54 rfl (Nat.le_of_ble_eq_true rfl) rfl ?_
    refine g_aload_n X 1 dX6_open_55 rfl rfl ?_
    refine g_get X (C := RX6) (T := TX6) (N := 2) (v := .ref (x 1)) inlX6 0 rfl rfl 0 (Nat.le_of_ble_eq_true rfl) kF_X6_10 rfl dX6_open_56 ?_
    refine g_get X (C := RX0) (T := TX0) (N := 11) (v := .ref (x 12)) inlX0 1 rfl rfl 3 (Nat.le_of_ble_eq_true rfl) kF_X6_63 rfl dX6_open_59 ?_
    refine g_get X (C := RX5) (T := TX5) (N := 9) (v := .ref (x 15)) inlX5 12 rfl rfl 3 (Nat.le_of_ble_eq_true rfl) kF_X6_80 rfl dX6_open_62 ?_
    refine g_iload_n X 2 dX6_open_65 rfl rfl ?_
    refine g_iload_n X 3 dX6_open_66 rfl rfl ?_
    obtain ⟨C4, eC4⟩ : ∃ z : Cf, z = c2 C 4 (nN v) q := ⟨_, rfl⟩
    refine g_iast X (ws' := wX x y cI cJ cZ C4 N S Qk Z) 15 rfl (nN v) evn (by omega) (Nat.le_of_ble_eq_true rfl) dX6_open_67 (by rw [eC4]; first | done | (rfl)) ?_
    refine g_iload_n X 0 dX6_open_68 rfl rfl ?_
    refine g_iret X hr hlk hQ dX6_open_69 ?_
    show g_eq _ _ _ _
    try rw [eC4]
    try rw [ev2]
    exact ⟨rfl, rfl⟩
  refine g_if_eq X (tgt := 36) dX6_open_28 (by decide) (fun h1 => ?_) (fun h1 => ?_)
  · --
    refine g_sipush X (v := nI 1000) dX6_open_36 (by decide +kernel) ?_
    exact J3 _ (by rw [if_pos (c := (C 3 (nN v)) = 0) h1])
  · --
    refine g_bipush X (v := nI 10) dX6_open_31 (by decide +kernel) ?_
    refine g_goto X (tgt := 39) dX6_open_33 (by decide) ?_
    exact J3 _ (by rw [if_neg (c := (C 3 (nN v)) = 0) h1])
abbrev rm_X6_openX : Room := { frames := 8, cells := 1, slots := 6, locals := 124 }
set_option maxRecDepth 100000 in
set_option maxHeartbeats 4000000 in
theorem m_X6_openX (l : Launch) (hl0 : l.stackTraces = false) (D : va_G) (cI cJ cZ : ClassId) (B0 : Nat) (x : Nat → Nat) (y : Nat) (C : Cf) (N : Nat → Nat) (S : St) (Qk : Nat → Int64) (Z : St) (v q : Int32) (hC : Cok C N) (hc1 : ¬ cO2 C (N 0) v q = 0) (hB : g_Bw B0 (wX x y cI cJ cZ C N S Qk Z)) : g_CtX l D cI cJ cZ B0 yX6_open cX6_open 4 (some .int) rm_X6_openX 1 6 [.ref (x 0), .int v, .int q] (wX x y cI cJ cZ C N S Qk Z) (fun _ _ => False) (fun E w => E = eA (cO2 C (N 0) v q) ∧ w = wX x y cI cJ cZ C N S Qk Z) := by
  refine g_bodyX RX6 [(0, .ref (x 0)), (1, .int v), (2, .int q)] kH_X6 rfl (Nat.le_of_ble_eq_true rfl) rfl hB ?_
  intro p e s m args below meth c A X Y hT hr hlk hmn Q hQ
  have hN0 := hC.n0
  have hN1 := hC.n1
  have hN2 := hC.n2
  refine g_iload_n X 1 dX6_open_0 rfl rfl ?_
  refine g_aload_n X 0 dX6_open_1 rfl rfl ?_
  refine g_get X (C := RX6) (T := TX6) (N := 2) (v := .ref (x 1)) inlX6 0 rfl rfl 0 (Nat.le_of_ble_eq_true rfl) kF_X6_10 rfl dX6_open_2 ?_
  refine g_get X (C := RX0) (T := TX0) (N := 11) (v := .ref (x 12)) inlX0 1 rfl rfl 3 (Nat.le_of_ble_eq_true rfl) kF_X6_63 rfl dX6_open_5 ?_
  refine g_get X (C := RX5) (T := TX5) (N := 9) (v := .int (nI (N 0))) inlX5 12 rfl rfl 0 (Nat.le_of_ble_eq_true rfl) kF_X6_67 rfl dX6_open_8 ?_
  by_cases hok1 : inB v (nI 0) (nI (N 0) - nI 1) = true
  · --
    refine g_callS X (As := [.int v, .int (nI (N 0))]) (rest := []) (m_X6_requireIndex l D cI cJ cZ v (N 0) (nI (N 0) - nI 1) rfl (by omega) hok1) kM_X6_19 kT_yX6_requireIndex kZ_RX6 kC_yX6_requireIndex hV_X6_requireIndex rfl rfl rfl ⟨Nat.le_of_ble_eq_true rfl, Nat.le_of_ble_eq_true rfl⟩ ⟨Nat.le_of_ble_eq_true rfl, Nat.le_of_ble_eq_true rfl⟩ (Nat.le_of_ble_eq_true rfl) dX6_open_11 rfl [] rfl rfl (g_kk1 (w2 := wX x y cI cJ cZ C N S Qk Z) em0 ?_)
    refine g_iload_n X 2 dX6_open_14 rfl rfl ?_
    refine g_iconst X (v := nI 0) dX6_open_15 (by decide +kernel) ?_
    refine g_aload_n X 0 dX6_open_16 rfl rfl ?_
    refine g_get X (C := RX6) (T := TX6) (N := 2) (v := .ref (x 1)) inlX6 0 rfl rfl 0 (Nat.le_of_ble_eq_true rfl) kF_X6_10 rfl dX6_open_17 ?_
    refine g_get X (C := RX0) (T := TX0) (N := 11) (v := .ref (x 12)) inlX0 1 rfl rfl 3 (Nat.le_of_ble_eq_true rfl) kF_X6_63 rfl dX6_open_20 ?_
    refine g_get X (C := RX5) (T := TX5) (N := 9) (v := .ref (x 14)) inlX5 12 rfl rfl 2 (Nat.le_of_ble_eq_true rfl) kF_X6_76 rfl dX6_open_23 ?_
    refine g_iload_n X 1 dX6_open_26 rfl rfl ?_
    obtain ⟨hvn, evn⟩ := inB_m (v := v) (n := N 0) (by omega) (by assumption)
    refine g_zald X 14 rfl (nN v) evn (by omega) (Nat.le_of_ble_eq_true rfl) (v := C 3 (nN v)) rfl dX6_open_27 ?_
    have J4 : ∀ (v3 : Nat), v3 = (if (C 3 (nN v)) = 0 then 1000 else 10) → g_G p l e rm_X6_openX s m args below meth c D A 4 0 0 Q (wX x y cI cJ cZ C N S Qk Z) [(0, .ref (x 0)), (1, .int v), (2, .int q)] 39 [.int (nI v3), .int (nI 0), .int q] := by
      intro v3 ev3
      have bv3 : v3 < 2147483648 := by subst ev3; (repeat' split) <;> omega
      replace ev3 := ev3.trans (show _ = (if C 3 (nN v) = 0 then 1000 else 10) from rfl)
      by_cases hok5 : inB q (nI 0) (nI v3) = true
      · --
        refine g_callS X (As := [.int q, .int (nI 0), .int (nI v3)]) (rest := []) (m_X6_requireRange l D cI cJ cZ q (nI 0) (nI v3) hok5) kM_X6_24 kT_yX6_requireRange kZ_RX6 kC_yX6_requireRange hV_X6_requireRange rfl rfl rfl ⟨Nat.le_of_ble_eq_true rfl, Nat.le_of_ble_eq_true rfl⟩ ⟨Nat.le_of_ble_eq_true rfl, Nat.le_of_ble_eq_true rfl⟩ (Nat.le_of_ble_eq_true rfl) dX6_open_39 rfl [] rfl rfl (g_kk1 (w2 := wX x y cI cJ cZ C N S Qk Z) em0 ?_)
        rw [ev3] at *
        refine absurd ?_ hc1
        (try clear evn); (try clear eqn)
        unfold cO2
        (repeat' split) <;> first | rfl | (exfalso; simp_all; done)
      · --
        refine g_callSX X Y hT hlk hQ (As := [.int q, .int (nI 0), .int (nI v3)]) (rest := []) (m_X6_requireRangeX l hl0 D cI cJ cZ B0 q (nI 0) (nI v3) (eq_false_of_ne_true hok5)) kM_X6_24 kT_yX6_requireRange kZ_RX6 kC_yX6_requireRange hV_X6_requireRange rfl rfl rfl ⟨Nat.le_of_ble_eq_true rfl, Nat.le_of_ble_eq_true rfl⟩ ⟨Nat.le_of_ble_eq_true rfl, Nat.le_of_ble_eq_true rfl⟩ (Nat.le_of_ble_eq_true rfl) dX6_open_39 rfl em0 (Nat.le_of_ble_eq_true rfl) (Nat.le_of_ble_eq_true rfl) ?_
        rw [ev3] at *
        refine ⟨?_, rfl⟩
        (try clear evn); (try clear eqn)
        unfold cO2
        (repeat' split) <;> first | (exfalso; simp_all; done) | rfl
    refine g_if_eq X (tgt := 36) dX6_open_28 (by decide) (fun h2 => ?_) (fun h2 => ?_)
    · --
      refine g_sipush X (v := nI 1000) dX6_open_36 (by decide +kernel) ?_
      exact J4 _ (by rw [if_pos (c := (C 3 (nN v)) = 0) h2])
    · --
      refine g_bipush X (v := nI 10) dX6_open_31 (by decide +kernel) ?_
      refine g_goto X (tgt := 39) dX6_open_33 (by decide) ?_
      exact J4 _ (by rw [if_neg (c := (C 3 (nN v)) = 0) h2])
  · --
    refine g_callSX X Y hT hlk hQ (As := [.int v, .int (nI (N 0))]) (rest := []) (m_X6_requireIndexX l hl0 D cI cJ cZ B0 v (N 0) (nI (N 0) - nI 1) rfl (by omega) (eq_false_of_ne_true hok1)) kM_X6_19 kT_yX6_requireIndex kZ_RX6 kC_yX6_requireIndex hV_X6_requireIndex rfl rfl rfl ⟨Nat.le_of_ble_eq_true rfl, Nat.le_of_ble_eq_true rfl⟩ ⟨Nat.le_of_ble_eq_true rfl, Nat.le_of_ble_eq_true rfl⟩ (Nat.le_of_ble_eq_true rfl) dX6_open_11 rfl em0 (Nat.le_of_ble_eq_true rfl) (Nat.le_of_ble_eq_true rfl) ?_
    refine ⟨?_, rfl⟩
    (try clear evn); (try clear eqn)
    unfold cO2
    (repeat' split) <;> first | (exfalso; simp_all; done) | rfl
theorem hV_X6_clean : yX6_clean.cls = RX6 ∧ yX6_clean.cls ≠ "java/lang/invoke/MethodHandle" ∧ yX6_clean.cls ≠ "java/lang/invoke/VarHandle" ∧ (parseMethodDescriptor yX6_clean.desc).map (fun d => d.parameters.length) = some 1 := by decide +kernel
abbrev rm_X6_clean : Room := { frames := 1, cells := 0, slots := 0, locals := 21 }
set_option maxRecDepth 100000 in
set_option maxHeartbeats 4000000 in
theorem m_X6_clean (l : Launch) (D : va_G) (cI cJ cZ : ClassId) (x : Nat → Nat) (y : Nat) (C : Cf) (N : Nat → Nat) (S : St) (Qk : Nat → Int64) (Z : St) (v : Int32) (hC : Cok C N) (hc0 : cW1 C (N 0) v = 0) : g_Ct l D cI cJ cZ yX6_clean cX6_clean 3 (some .int) rm_X6_clean 0 0 [.ref (x 0), .int v] (wX x y cI cJ cZ C N S Qk Z) (g_eq (some (.int ((S 4 (nN v)).toInt32))) (wX x y cI cJ cZ C N (u2 S 4 (nN v) 0) Qk Z)) := by
  refine g_body RX6 [(0, .ref (x 0)), (1, .int v)] kH_X6 rfl (Nat.le_of_ble_eq_true rfl) rfl ?_
  intro p e s m args below meth c A X hr hlk hmn Q hQ
  have hN0 := hC.n0
  have hN1 := hC.n1
  have hN2 := hC.n2
  have hk0 := cW1_0 hc0
  obtain ⟨h0a, h0b⟩ := hk0
  refine g_iload_n X 1 dX6_clean_0 rfl rfl ?_
  refine g_aload_n X 0 dX6_clean_1 rfl rfl ?_
  refine g_get X (C := RX6) (T := TX6) (N := 2) (v := .ref (x 1)) inlX6 0 rfl rfl 0 (Nat.le_of_ble_eq_true rfl) kF_X6_10 rfl dX6_clean_2 ?_
  refine g_get X (C := RX0) (T := TX0) (N := 11) (v := .ref (x 12)) inlX0 1 rfl rfl 3 (Nat.le_of_ble_eq_true rfl) kF_X6_63 rfl dX6_clean_5 ?_
  refine g_get X (C := RX5) (T := TX5) (N := 9) (v := .int (nI (N 0))) inlX5 12 rfl rfl 0 (Nat.le_of_ble_eq_true rfl) kF_X6_67 rfl dX6_clean_8 ?_
  refine g_callS X (As := [.int v, .int (nI (N 0))]) (rest := []) (m_X6_requireIndex l D cI cJ cZ v (N 0) (nI (N 0) - nI 1) rfl (by omega) (by assumption)) kM_X6_19 kT_yX6_requireIndex kZ_RX6 kC_yX6_requireIndex hV_X6_requireIndex rfl rfl rfl ⟨Nat.le_of_ble_eq_true rfl, Nat.le_of_ble_eq_true rfl⟩ ⟨Nat.le_of_ble_eq_true rfl, Nat.le_of_ble_eq_true rfl⟩ (Nat.le_of_ble_eq_true rfl) dX6_clean_11 rfl [] rfl (by decide +kernel) (g_kk1 (w2 := wX x y cI cJ cZ C N S Qk Z) em0 ?_)
  refine g_aload_n X 0 dX6_clean_14 rfl rfl ?_
  refine g_get X (C := RX6) (T := TX6) (N := 2) (v := .ref (x 1)) inlX6 0 rfl rfl 0 (Nat.le_of_ble_eq_true rfl) kF_X6_10 rfl dX6_clean_15 ?_
  refine g_get X (C := RX0) (T := TX0) (N := 11) (v := .ref (x 12)) inlX0 1 rfl rfl 3 (Nat.le_of_ble_eq_true rfl) kF_X6_63 rfl dX6_clean_18 ?_
  refine g_get X (C := RX5) (T := TX5) (N := 9) (v := .ref (x 14)) inlX5 12 rfl rfl 2 (Nat.le_of_ble_eq_true rfl) kF_X6_76 rfl dX6_clean_21 ?_
  refine g_iload_n X 1 dX6_clean_24 rfl rfl ?_
  obtain ⟨hvn, evn⟩ := inB_m (v := v) (n := N 0) (by omega) (by assumption)
  refine g_zald X 14 rfl (nN v) evn (by omega) (Nat.le_of_ble_eq_true rfl) (v := C 3 (nN v)) rfl dX6_clean_25 ?_
  have J3 : ∀ (v2 : Bool), v2 = (if ¬ (C 3 (nN v)) = 0 then false else true) → g_G p l e rm_X6_clean s m args below meth c D A 3 0 0 Q (wX x y cI cJ cZ C N S Qk Z) [(0, .ref (x 0)), (1, .int v)] 34 [.int (bI v2)] := by
    intro v2 ev2
    replace ev2 := ev2.trans (show _ = decide (C 3 (nN v) = 0) from bz_d _)
    refine g_callS X (As := [.int (bI v2)]) (rest := []) (m_X6_requireState l D cI cJ cZ v2 (by rw [ev2]; exact decide_eq_true h0b)) kM_X6_32 kT_yX6_requireState kZ_RX6 kC_yX6_requireState hV_X6_requireState rfl rfl rfl ⟨Nat.le_of_ble_eq_true rfl, Nat.le_of_ble_eq_true rfl⟩ ⟨Nat.le_of_ble_eq_true rfl, Nat.le_of_ble_eq_true rfl⟩ (Nat.le_of_ble_eq_true rfl) dX6_clean_34 rfl [] rfl (by decide +kernel) (g_kk1 (w2 := wX x y cI cJ cZ C N S Qk Z) em0 ?_)
    refine g_aload_n X 0 dX6_clean_37 rfl rfl ?_
    refine g_get X (C := RX6) (T := TX6) (N := 2) (v := .ref (x 1)) inlX6 0 rfl rfl 0 (Nat.le_of_ble_eq_true rfl) kF_X6_10 rfl dX6_clean_38 ?_
    refine g_get X (C := RX0) (T := TX0) (N := 11) (v := .ref (x 12)) inlX0 1 rfl rfl 3 (Nat.le_of_ble_eq_true rfl) kF_X6_63 rfl dX6_clean_41 ?_
    refine g_get X (C := RX5) (T := TX5) (N := 9) (v := .ref (x 16)) inlX5 12 rfl rfl 4 (Nat.le_of_ble_eq_true rfl) kF_X6_84 rfl dX6_clean_44 ?_
    refine g_iload_n X 1 dX6_clean_47 rfl rfl ?_
    refine g_iald X 16 rfl (nN v) evn (by omega) (Nat.le_of_ble_eq_true rfl) (v := (S 4 (nN v)).toInt32) rfl dX6_clean_48 ?_
    refine g_istore_n X [(2, .int ((S 4 (nN v)).toInt32)), (0, .ref (x 0)), (1, .int v)] dX6_clean_49 rfl (Nat.le_of_ble_eq_true rfl) rfl ?_
    refine g_aload_n X 1 dX6_clean_50 rfl rfl ?_
    refine g_get X (C := RX6) (T := TX6) (N := 2) (v := .ref (x 1)) inlX6 0 rfl rfl 0 (Nat.le_of_ble_eq_true rfl) kF_X6_10 rfl dX6_clean_51 ?_
    refine g_get X (C := RX0) (T := TX0) (N := 11) (v := .ref (x 12)) inlX0 1 rfl rfl 3 (Nat.le_of_ble_eq_true rfl) kF_X6_63 rfl dX6_clean_54 ?_
    refine g_get X (C := RX5) (T := TX5) (N := 9) (v := .ref (x 16)) inlX5 12 rfl rfl 4 (Nat.le_of_ble_eq_true rfl) kF_X6_84 rfl dX6_clean_57 ?_
    refine g_iload_n X 2 dX6_clean_60 rfl rfl ?_
    refine g_iconst X (v := nI 0) dX6_clean_61 (by decide +kernel) ?_
    obtain ⟨S4, eS4⟩ : ∃ z : St, z = u2 S 4 (nN v) (0 : Int64) := ⟨_, rfl⟩
    refine g_iast X (ws' := wX x y cI cJ cZ C N S4 Qk Z) 16 rfl (nN v) evn (by omega) (Nat.le_of_ble_eq_true rfl) dX6_clean_62 (by rw [eS4]; first | done | (rw [i32_updV _ _ (v := (0 : Int64)) (by decide +kernel)]; rfl)) ?_
    refine g_iload_n X 0 dX6_clean_63 rfl rfl ?_
    refine g_iret X hr hlk hQ dX6_clean_64 ?_
    show g_eq _ _ _ _
    try rw [eS4]
    try rw [ev2]
    exact ⟨rfl, rfl⟩
  refine g_if_ne X (tgt := 33) dX6_clean_26 (by decide) (fun h1 => ?_) (fun h1 => ?_)
  · --
    refine g_iconst X (v := nI 0) dX6_clean_33 (by decide +kernel) ?_
    exact J3 _ (by rw [if_pos (c := ¬ (C 3 (nN v)) = 0) h1])
  · --
    refine g_iconst X (v := nI 1) dX6_clean_29 (by decide +kernel) ?_
    refine g_goto X (tgt := 34) dX6_clean_30 (by decide) ?_
    exact J3 _ (by rw [if_neg (c := ¬ (C 3 (nN v)) = 0) (fun z => z h1)])
abbrev rm_X6_cleanX : Room := { frames := 7, cells := 1, slots := 6, locals := 103 }
set_option maxRecDepth 100000 in
set_option maxHeartbeats 4000000 in
theorem m_X6_cleanX (l : Launch) (hl0 : l.stackTraces = false) (D : va_G) (cI cJ cZ : ClassId) (B0 : Nat) (x : Nat → Nat) (y : Nat) (C : Cf) (N : Nat → Nat) (S : St) (Qk : Nat → Int64) (Z : St) (v : Int32) (hC : Cok C N) (hc1 : ¬ cW1 C (N 0) v = 0) (hB : g_Bw B0 (wX x y cI cJ cZ C N S Qk Z)) : g_CtX l D cI cJ cZ B0 yX6_clean cX6_clean 3 (some .int) rm_X6_cleanX 1 6 [.ref (x 0), .int v] (wX x y cI cJ cZ C N S Qk Z) (fun _ _ => False) (fun E w => E = eB (cW1 C (N 0) v) ∧ w = wX x y cI cJ cZ C N S Qk Z) := by
  refine g_bodyX RX6 [(0, .ref (x 0)), (1, .int v)] kH_X6 rfl (Nat.le_of_ble_eq_true rfl) rfl hB ?_
  intro p e s m args below meth c A X Y hT hr hlk hmn Q hQ
  have hN0 := hC.n0
  have hN1 := hC.n1
  have hN2 := hC.n2
  refine g_iload_n X 1 dX6_clean_0 rfl rfl ?_
  refine g_aload_n X 0 dX6_clean_1 rfl rfl ?_
  refine g_get X (C := RX6) (T := TX6) (N := 2) (v := .ref (x 1)) inlX6 0 rfl rfl 0 (Nat.le_of_ble_eq_true rfl) kF_X6_10 rfl dX6_clean_2 ?_
  refine g_get X (C := RX0) (T := TX0) (N := 11) (v := .ref (x 12)) inlX0 1 rfl rfl 3 (Nat.le_of_ble_eq_true rfl) kF_X6_63 rfl dX6_clean_5 ?_
  refine g_get X (C := RX5) (T := TX5) (N := 9) (v := .int (nI (N 0))) inlX5 12 rfl rfl 0 (Nat.le_of_ble_eq_true rfl) kF_X6_67 rfl dX6_clean_8 ?_
  by_cases hok1 : inB v (nI 0) (nI (N 0) - nI 1) = true
  · --
    refine g_callS X (As := [.int v, .int (nI (N 0))]) (rest := []) (m_X6_requireIndex l D cI cJ cZ v (N 0) (nI (N 0) - nI 1) rfl (by omega) hok1) kM_X6_19 kT_yX6_requireIndex kZ_RX6 kC_yX6_requireIndex hV_X6_requireIndex rfl rfl rfl ⟨Nat.le_of_ble_eq_true rfl, Nat.le_of_ble_eq_true rfl⟩ ⟨Nat.le_of_ble_eq_true rfl, Nat.le_of_ble_eq_true rfl⟩ (Nat.le_of_ble_eq_true rfl) dX6_clean_11 rfl [] rfl rfl (g_kk1 (w2 := wX x y cI cJ cZ C N S Qk Z) em0 ?_)
    refine g_aload_n X 0 dX6_clean_14 rfl rfl ?_
    refine g_get X (C := RX6) (T := TX6) (N := 2) (v := .ref (x 1)) inlX6 0 rfl rfl 0 (Nat.le_of_ble_eq_true rfl) kF_X6_10 rfl dX6_clean_15 ?_
    refine g_get X (C := RX0) (T := TX0) (N := 11) (v := .ref (x 12)) inlX0 1 rfl rfl 3 (Nat.le_of_ble_eq_true rfl) kF_X6_63 rfl dX6_clean_18 ?_
    refine g_get X (C := RX5) (T := TX5) (N := 9) (v := .ref (x 14)) inlX5 12 rfl rfl 2 (Nat.le_of_ble_eq_true rfl) kF_X6_76 rfl dX6_clean_21 ?_
    refine g_iload_n X 1 dX6_clean_24 rfl rfl ?_
    obtain ⟨hvn, evn⟩ := inB_m (v := v) (n := N 0) (by omega) (by assumption)
    refine g_zald X 14 rfl (nN v) evn (by omega) (Nat.le_of_ble_eq_true rfl) (v := C 3 (nN v)) rfl dX6_clean_25 ?_
    have J4 : ∀ (v3 : Bool), v3 = (if ¬ (C 3 (nN v)) = 0 then false else true) → g_G p l e rm_X6_cleanX s m args below meth c D A 3 0 0 Q (wX x y cI cJ cZ C N S Qk Z) [(0, .ref (x 0)), (1, .int v)] 34 [.int (bI v3)] := by
      intro v3 ev3
      replace ev3 := ev3.trans (show _ = decide (C 3 (nN v) = 0) from bz_d _)
      by_cases hok5 : v3 = true
      · --
        refine g_callS X (As := [.int (bI v3)]) (rest := []) (m_X6_requireState l D cI cJ cZ v3 hok5) kM_X6_32 kT_yX6_requireState kZ_RX6 kC_yX6_requireState hV_X6_requireState rfl rfl rfl ⟨Nat.le_of_ble_eq_true rfl, Nat.le_of_ble_eq_true rfl⟩ ⟨Nat.le_of_ble_eq_true rfl, Nat.le_of_ble_eq_true rfl⟩ (Nat.le_of_ble_eq_true rfl) dX6_clean_34 rfl [] rfl rfl (g_kk1 (w2 := wX x y cI cJ cZ C N S Qk Z) em0 ?_)
        rw [ev3] at *
        refine absurd ?_ hc1
        (try clear evn); (try clear eqn)
        unfold cW1
        (repeat' split) <;> first | rfl | (exfalso; simp_all; done)
      · --
        refine g_callSX X Y hT hlk hQ (As := [.int (bI v3)]) (rest := []) (m_X6_requireStateX l hl0 D cI cJ cZ B0 v3 (eq_false_of_ne_true hok5)) kM_X6_32 kT_yX6_requireState kZ_RX6 kC_yX6_requireState hV_X6_requireState rfl rfl rfl ⟨Nat.le_of_ble_eq_true rfl, Nat.le_of_ble_eq_true rfl⟩ ⟨Nat.le_of_ble_eq_true rfl, Nat.le_of_ble_eq_true rfl⟩ (Nat.le_of_ble_eq_true rfl) dX6_clean_34 rfl em0 (Nat.le_of_ble_eq_true rfl) (Nat.le_of_ble_eq_true rfl) ?_
        rw [ev3] at *
        refine ⟨?_, rfl⟩
        (try clear evn); (try clear eqn)
        unfold cW1
        (repeat' split) <;> first | (exfalso; simp_all; done) | rfl
    refine g_if_ne X (tgt := 33) dX6_clean_26 (by decide) (fun h2 => ?_) (fun h2 => ?_)
    · --
      refine g_iconst X (v := nI 0) dX6_clean_33 (by decide +kernel) ?_
      exact J4 _ (by rw [if_pos (c := ¬ (C 3 (nN v)) = 0) h2])
    · --
      refine g_iconst X (v := nI 1) dX6_clean_29 (by decide +kernel) ?_
      refine g_goto X (tgt := 34) dX6_clean_30 (by decide) ?_
      exact J4 _ (by rw [if_neg (c := ¬ (C 3 (nN v)) = 0) (fun z => z h2)])
  · --
    refine g_callSX X Y hT hlk hQ (As := [.int v, .int (nI (N 0))]) (rest := []) (m_X6_requireIndexX l hl0 D cI cJ cZ B0 v (N 0) (nI (N 0) - nI 1) rfl (by omega) (eq_false_of_ne_true hok1)) kM_X6_19 kT_yX6_requireIndex kZ_RX6 kC_yX6_requireIndex hV_X6_requireIndex rfl rfl rfl ⟨Nat.le_of_ble_eq_true rfl, Nat.le_of_ble_eq_true rfl⟩ ⟨Nat.le_of_ble_eq_true rfl, Nat.le_of_ble_eq_true rfl⟩ (Nat.le_of_ble_eq_true rfl) dX6_clean_11 rfl em0 (Nat.le_of_ble_eq_true rfl) (Nat.le_of_ble_eq_true rfl) ?_
    refine ⟨?_, rfl⟩
    (try clear evn); (try clear eqn)
    unfold cW1
    (repeat' split) <;> first | (exfalso; simp_all; done) | rfl
theorem hV_X6_use : yX6_use.cls = RX6 ∧ yX6_use.cls ≠ "java/lang/invoke/MethodHandle" ∧ yX6_use.cls ≠ "java/lang/invoke/VarHandle" ∧ (parseMethodDescriptor yX6_use.desc).map (fun d => d.parameters.length) = some 2 := by decide +kernel
abbrev rm_X6_use : Room := { frames := 2, cells := 0, slots := 0, locals := 42 }
set_option maxRecDepth 100000 in
set_option maxHeartbeats 4000000 in
theorem m_X6_use (l : Launch) (D : va_G) (cI cJ cZ : ClassId) (x : Nat → Nat) (y : Nat) (C : Cf) (N : Nat → Nat) (S : St) (Qk : Nat → Int64) (Z : St) (v q : Int32) (hC : Cok C N) (hc0 : cU2 (N 1) v q = 0) : g_Ct l D cI cJ cZ yX6_use cX6_use 3 (some .int) rm_X6_use 0 0 [.ref (x 0), .int v, .int q] (wX x y cI cJ cZ C N S Qk Z) (g_eq (some (.int (nI (N 1)))) (wX x y cI cJ cZ (c2 (c2 C 5 (N 1) v) 6 (N 1) q) (n2 N 1 (N 1 + 1)) S Qk Z)) := by
  refine g_body RX6 [(0, .ref (x 0)), (1, .int v), (2, .int q)] kH_X6 rfl (Nat.le_of_ble_eq_true rfl) rfl ?_
  intro p e s m args below meth c A X hr hlk hmn Q hQ
  have hN0 := hC.n0
  have hN1 := hC.n1
  have hN2 := hC.n2
  have hk0 := cU2_0 hc0
  obtain ⟨h0a, h0b, h0c⟩ := hk0
  refine g_iload_n X 1 dX6_use_0 rfl rfl ?_
  refine g_iconst X (v := nI 0) dX6_use_1 (by decide +kernel) ?_
  refine g_bipush X (v := nI 100) dX6_use_2 (by decide +kernel) ?_
  refine g_callS X (As := [.int v, .int (nI 0), .int (nI 100)]) (rest := []) (m_X6_requireRange l D cI cJ cZ v (nI 0) (nI 100) (by assumption)) kM_X6_24 kT_yX6_requireRange kZ_RX6 kC_yX6_requireRange hV_X6_requireRange rfl rfl rfl ⟨Nat.le_of_ble_eq_true rfl, Nat.le_of_ble_eq_true rfl⟩ ⟨Nat.le_of_ble_eq_true rfl, Nat.le_of_ble_eq_true rfl⟩ (Nat.le_of_ble_eq_true rfl) dX6_use_4 rfl [] rfl (by decide +kernel) (g_kk1 (w2 := wX x y cI cJ cZ C N S Qk Z) em0 ?_)
  refine g_iload_n X 2 dX6_use_7 rfl rfl ?_
  refine g_iconst X (v := nI 1) dX6_use_8 (by decide +kernel) ?_
  refine g_bipush X (v := nI 50) dX6_use_9 (by decide +kernel) ?_
  refine g_callS X (As := [.int q, .int (nI 1), .int (nI 50)]) (rest := []) (m_X6_requireRange l D cI cJ cZ q (nI 1) (nI 50) (by assumption)) kM_X6_24 kT_yX6_requireRange kZ_RX6 kC_yX6_requireRange hV_X6_requireRange rfl rfl rfl ⟨Nat.le_of_ble_eq_true rfl, Nat.le_of_ble_eq_true rfl⟩ ⟨Nat.le_of_ble_eq_true rfl, Nat.le_of_ble_eq_true rfl⟩ (Nat.le_of_ble_eq_true rfl) dX6_use_11 rfl [] rfl (by decide +kernel) (g_kk1 (w2 := wX x y cI cJ cZ C N S Qk Z) em0 ?_)
  refine g_aload_n X 0 dX6_use_14 rfl rfl ?_
  refine g_get X (C := RX6) (T := TX6) (N := 2) (v := .ref (x 1)) inlX6 0 rfl rfl 0 (Nat.le_of_ble_eq_true rfl) kF_X6_10 rfl dX6_use_15 ?_
  refine g_get X (C := RX0) (T := TX0) (N := 11) (v := .ref (x 21)) inlX0 1 rfl rfl 4 (Nat.le_of_ble_eq_true rfl) kF_X6_87 rfl dX6_use_18 ?_
  refine g_get X (C := RX4) (T := TX4) (N := 3) (v := .int (nI (N 1))) inlX4 21 rfl rfl 0 (Nat.le_of_ble_eq_true rfl) kF_X6_91 rfl dX6_use_21 ?_
  refine g_bipush X (v := nI 6) dX6_use_24 (by decide +kernel) ?_
  have J3 : ∀ (v2 : Bool), v2 = (if 6 ≤ N 1 then false else true) → g_G p l e rm_X6_use s m args below meth c D A 3 0 0 Q (wX x y cI cJ cZ C N S Qk Z) [(0, .ref (x 0)), (1, .int v), (2, .int q)] 34 [.int (bI v2)] := by
    intro v2 ev2
    replace ev2 := ev2.trans (show _ = decide (¬ N 1 = 6) from sz_ne hC.n1)
    refine g_callS X (As := [.int (bI v2)]) (rest := []) (m_X6_requireState l D cI cJ cZ v2 (by rw [ev2]; exact decide_eq_true h0c)) kM_X6_32 kT_yX6_requireState kZ_RX6 kC_yX6_requireState hV_X6_requireState rfl rfl rfl ⟨Nat.le_of_ble_eq_true rfl, Nat.le_of_ble_eq_true rfl⟩ ⟨Nat.le_of_ble_eq_true rfl, Nat.le_of_ble_eq_true rfl⟩ (Nat.le_of_ble_eq_true rfl) dX6_use_34 rfl [] rfl (by decide +kernel) (g_kk1 (w2 := wX x y cI cJ cZ C N S Qk Z) em0 ?_)
    refine g_aload_n X 0 dX6_use_37 rfl rfl ?_
    refine g_get X (C := RX6) (T := TX6) (N := 2) (v := .ref (x 1)) inlX6 0 rfl rfl 0 (Nat.le_of_ble_eq_true rfl) kF_X6_10 rfl dX6_use_38 ?_
    refine g_get X (C := RX0) (T := TX0) (N := 11) (v := .ref (x 21)) inlX0 1 rfl rfl 4 (Nat.le_of_ble_eq_true rfl) kF_X6_87 rfl dX6_use_41 ?_
    refine g_iload_n X 1 dX6_use_44 rfl rfl ?_
    refine g_iload_n X 2 dX6_use_45 rfl rfl ?_
    obtain ⟨C4, eC4⟩ : ∃ z : Cf, z = c2 (c2 C 5 (N 1) v) 6 (N 1) q := ⟨_, rfl⟩
    obtain ⟨N5, eN5⟩ : ∃ z : Nat → Nat, z = n2 N 1 (N 1 + 1) := ⟨_, rfl⟩
    refine g_callV X (As := [.int v, .int q]) (rest := []) (m_X4_add l D cI cJ cZ (fun i => x (21 + i)) C N v q (by omega)) kM_X6_94 kI_yX4_add kS_yX4_add kZ_RX4 kC_yX4_add hV_X4_add rfl rfl rfl 0 rfl (ci := 4) rfl ⟨Nat.le_of_ble_eq_true rfl, Nat.le_of_ble_eq_true rfl⟩ ⟨Nat.le_of_ble_eq_true rfl, Nat.le_of_ble_eq_true rfl⟩ (Nat.le_of_ble_eq_true rfl) dX6_use_46 rfl (em_I 21 3 24 0) (em_C (by decide) (Nat.le_of_ble_eq_true rfl) rfl) (em_nd (by decide)) (g_kk1 (w2 := wX x y cI cJ cZ C4 N5 S Qk Z) (by rw [eN5]; rw [eC4]; exact (em3 21 3 24 0 (by decide) (Nat.le_of_ble_eq_true rfl) rfl rfl rfl)) ?_)
    refine g_iret X hr hlk hQ dX6_use_49 ?_
    show g_eq _ _ _ _
    try rw [eN5]
    try rw [eC4]
    try rw [ev2]
    exact ⟨rfl, rfl⟩
  refine g_icN_ge X (a := N 1) (b := 6) (tgt := 33) (by omega) (by omega) dX6_use_26 (by decide) (fun h1 => ?_) (fun h1 => ?_)
  · --
    refine g_iconst X (v := nI 0) dX6_use_33 (by decide +kernel) ?_
    exact J3 _ (by rw [if_pos (c := 6 ≤ N 1) h1])
  · --
    refine g_iconst X (v := nI 1) dX6_use_29 (by decide +kernel) ?_
    refine g_goto X (tgt := 34) dX6_use_30 (by decide) ?_
    exact J3 _ (by rw [if_neg (c := 6 ≤ N 1) h1])
abbrev rm_X6_useX : Room := { frames := 8, cells := 1, slots := 6, locals := 124 }
set_option maxRecDepth 100000 in
set_option maxHeartbeats 4000000 in
theorem m_X6_useX (l : Launch) (hl0 : l.stackTraces = false) (D : va_G) (cI cJ cZ : ClassId) (B0 : Nat) (x : Nat → Nat) (y : Nat) (C : Cf) (N : Nat → Nat) (S : St) (Qk : Nat → Int64) (Z : St) (v q : Int32) (hC : Cok C N) (hc1 : ¬ cU2 (N 1) v q = 0) (hB : g_Bw B0 (wX x y cI cJ cZ C N S Qk Z)) : g_CtX l D cI cJ cZ B0 yX6_use cX6_use 3 (some .int) rm_X6_useX 1 6 [.ref (x 0), .int v, .int q] (wX x y cI cJ cZ C N S Qk Z) (fun _ _ => False) (fun E w => E = eC (cU2 (N 1) v q) ∧ w = wX x y cI cJ cZ C N S Qk Z) := by
  refine g_bodyX RX6 [(0, .ref (x 0)), (1, .int v), (2, .int q)] kH_X6 rfl (Nat.le_of_ble_eq_true rfl) rfl hB ?_
  intro p e s m args below meth c A X Y hT hr hlk hmn Q hQ
  have hN0 := hC.n0
  have hN1 := hC.n1
  have hN2 := hC.n2
  refine g_iload_n X 1 dX6_use_0 rfl rfl ?_
  refine g_iconst X (v := nI 0) dX6_use_1 (by decide +kernel) ?_
  refine g_bipush X (v := nI 100) dX6_use_2 (by decide +kernel) ?_
  by_cases hok1 : inB v (nI 0) (nI 100) = true
  · --
    refine g_callS X (As := [.int v, .int (nI 0), .int (nI 100)]) (rest := []) (m_X6_requireRange l D cI cJ cZ v (nI 0) (nI 100) hok1) kM_X6_24 kT_yX6_requireRange kZ_RX6 kC_yX6_requireRange hV_X6_requireRange rfl rfl rfl ⟨Nat.le_of_ble_eq_true rfl, Nat.le_of_ble_eq_true rfl⟩ ⟨Nat.le_of_ble_eq_true rfl, Nat.le_of_ble_eq_true rfl⟩ (Nat.le_of_ble_eq_true rfl) dX6_use_4 rfl [] rfl rfl (g_kk1 (w2 := wX x y cI cJ cZ C N S Qk Z) em0 ?_)
    refine g_iload_n X 2 dX6_use_7 rfl rfl ?_
    refine g_iconst X (v := nI 1) dX6_use_8 (by decide +kernel) ?_
    refine g_bipush X (v := nI 50) dX6_use_9 (by decide +kernel) ?_
    by_cases hok2 : inB q (nI 1) (nI 50) = true
    · --
      refine g_callS X (As := [.int q, .int (nI 1), .int (nI 50)]) (rest := []) (m_X6_requireRange l D cI cJ cZ q (nI 1) (nI 50) hok2) kM_X6_24 kT_yX6_requireRange kZ_RX6 kC_yX6_requireRange hV_X6_requireRange rfl rfl rfl ⟨Nat.le_of_ble_eq_true rfl, Nat.le_of_ble_eq_true rfl⟩ ⟨Nat.le_of_ble_eq_true rfl, Nat.le_of_ble_eq_true rfl⟩ (Nat.le_of_ble_eq_true rfl) dX6_use_11 rfl [] rfl rfl (g_kk1 (w2 := wX x y cI cJ cZ C N S Qk Z) em0 ?_)
      refine g_aload_n X 0 dX6_use_14 rfl rfl ?_
      refine g_get X (C := RX6) (T := TX6) (N := 2) (v := .ref (x 1)) inlX6 0 rfl rfl 0 (Nat.le_of_ble_eq_true rfl) kF_X6_10 rfl dX6_use_15 ?_
      refine g_get X (C := RX0) (T := TX0) (N := 11) (v := .ref (x 21)) inlX0 1 rfl rfl 4 (Nat.le_of_ble_eq_true rfl) kF_X6_87 rfl dX6_use_18 ?_
      refine g_get X (C := RX4) (T := TX4) (N := 3) (v := .int (nI (N 1))) inlX4 21 rfl rfl 0 (Nat.le_of_ble_eq_true rfl) kF_X6_91 rfl dX6_use_21 ?_
      refine g_bipush X (v := nI 6) dX6_use_24 (by decide +kernel) ?_
      have J5 : ∀ (v4 : Bool), v4 = (if 6 ≤ N 1 then false else true) → g_G p l e rm_X6_useX s m args below meth c D A 3 0 0 Q (wX x y cI cJ cZ C N S Qk Z) [(0, .ref (x 0)), (1, .int v), (2, .int q)] 34 [.int (bI v4)] := by
        intro v4 ev4
        replace ev4 := ev4.trans (show _ = decide (¬ N 1 = 6) from sz_ne hC.n1)
        by_cases hok6 : v4 = true
        · --
          refine g_callS X (As := [.int (bI v4)]) (rest := []) (m_X6_requireState l D cI cJ cZ v4 hok6) kM_X6_32 kT_yX6_requireState kZ_RX6 kC_yX6_requireState hV_X6_requireState rfl rfl rfl ⟨Nat.le_of_ble_eq_true rfl, Nat.le_of_ble_eq_true rfl⟩ ⟨Nat.le_of_ble_eq_true rfl, Nat.le_of_ble_eq_true rfl⟩ (Nat.le_of_ble_eq_true rfl) dX6_use_34 rfl [] rfl rfl (g_kk1 (w2 := wX x y cI cJ cZ C N S Qk Z) em0 ?_)
          rw [ev4] at *
          refine absurd ?_ hc1
          (try clear evn); (try clear eqn)
          unfold cU2
          (repeat' split) <;> first | rfl | (exfalso; simp_all; done)
        · --
          refine g_callSX X Y hT hlk hQ (As := [.int (bI v4)]) (rest := []) (m_X6_requireStateX l hl0 D cI cJ cZ B0 v4 (eq_false_of_ne_true hok6)) kM_X6_32 kT_yX6_requireState kZ_RX6 kC_yX6_requireState hV_X6_requireState rfl rfl rfl ⟨Nat.le_of_ble_eq_true rfl, Nat.le_of_ble_eq_true rfl⟩ ⟨Nat.le_of_ble_eq_true rfl, Nat.le_of_ble_eq_true rfl⟩ (Nat.le_of_ble_eq_true rfl) dX6_use_34 rfl em0 (Nat.le_of_ble_eq_true rfl) (Nat.le_of_ble_eq_true rfl) ?_
          rw [ev4] at *
          refine ⟨?_, rfl⟩
          (try clear evn); (try clear eqn)
          unfold cU2
          (repeat' split) <;> first | (exfalso; simp_all; done) | rfl
      refine g_icN_ge X (a := N 1) (b := 6) (tgt := 33) (by omega) (by omega) dX6_use_26 (by decide) (fun h3 => ?_) (fun h3 => ?_)
      · --
        refine g_iconst X (v := nI 0) dX6_use_33 (by decide +kernel) ?_
        exact J5 _ (by rw [if_pos (c := 6 ≤ N 1) h3])
      · --
        refine g_iconst X (v := nI 1) dX6_use_29 (by decide +kernel) ?_
        refine g_goto X (tgt := 34) dX6_use_30 (by decide) ?_
        exact J5 _ (by rw [if_neg (c := 6 ≤ N 1) h3])
    · --
      refine g_callSX X Y hT hlk hQ (As := [.int q, .int (nI 1), .int (nI 50)]) (rest := []) (m_X6_requireRangeX l hl0 D cI cJ cZ B0 q (nI 1) (nI 50) (eq_false_of_ne_true hok2)) kM_X6_24 kT_yX6_requireRange kZ_RX6 kC_yX6_requireRange hV_X6_requireRange rfl rfl rfl ⟨Nat.le_of_ble_eq_true rfl, Nat.le_of_ble_eq_true rfl⟩ ⟨Nat.le_of_ble_eq_true rfl, Nat.le_of_ble_eq_true rfl⟩ (Nat.le_of_ble_eq_true rfl) dX6_use_11 rfl em0 (Nat.le_of_ble_eq_true rfl) (Nat.le_of_ble_eq_true rfl) ?_
      refine ⟨?_, rfl⟩
      (try clear evn); (try clear eqn)
      unfold cU2
      (repeat' split) <;> first | (exfalso; simp_all; done) | rfl
  · --
    refine g_callSX X Y hT hlk hQ (As := [.int v, .int (nI 0), .int (nI 100)]) (rest := []) (m_X6_requireRangeX l hl0 D cI cJ cZ B0 v (nI 0) (nI 100) (eq_false_of_ne_true hok1)) kM_X6_24 kT_yX6_requireRange kZ_RX6 kC_yX6_requireRange hV_X6_requireRange rfl rfl rfl ⟨Nat.le_of_ble_eq_true rfl, Nat.le_of_ble_eq_true rfl⟩ ⟨Nat.le_of_ble_eq_true rfl, Nat.le_of_ble_eq_true rfl⟩ (Nat.le_of_ble_eq_true rfl) dX6_use_4 rfl em0 (Nat.le_of_ble_eq_true rfl) (Nat.le_of_ble_eq_true rfl) ?_
    refine ⟨?_, rfl⟩
    (try clear evn); (try clear eqn)
    unfold cU2
    (repeat' split) <;> first | (exfalso; simp_all; done) | rfl
