theorem cS3_a {n : Nat} {v q r : Int32} (h : cS3 n v q r = 0) : inB v (nI 0) (nI 11) = true ∧ inB q (nI 0) (nI 50000) = true ∧ inB r (nI 0) (nI 50000) = true ∧ ¬ n = 4 := by
  unfold cS3 at h
  (repeat' split at h) <;> simp_all
theorem cT2_a {S : St} {v q : Int32} (h : cT2 S v q = 0) : inB v (nI 0) (nI 11) = true ∧ inB q (nI 1) (nI 100000) = true ∧ ¬ S 0 (nN v) = 0 := by
  unfold cT2 at h
  (repeat' split at h) <;> simp_all
theorem wz_d {z : Int64} (h : 0 ≤ z.toInt) : (if z ≤ 0 then false else true) = decide (¬ z = 0) := by
  have e0 : (0 : Int64).toInt = 0 := by decide
  by_cases h1 : z = 0
  · rw [if_pos (by rw [h1]; exact Int64.le_refl 0), decide_eq_false (not_not_intro h1)]
  · rw [if_neg (fun q => h1 (Int64.toInt_inj.mp (by
      rw [Int64.le_iff_toInt_le] at q
      omega))), decide_eq_true h1]

theorem hV_X6_spring : yX6_spring.cls = RX6 ∧ yX6_spring.cls ≠ "java/lang/invoke/MethodHandle" ∧ yX6_spring.cls ≠ "java/lang/invoke/VarHandle" ∧ (parseMethodDescriptor yX6_spring.desc).map (fun d => d.parameters.length) = some 3 := by decide +kernel
abbrev rm_X6_spring : Room := { frames := 2, cells := 0, slots := 0, locals := 42 }
set_option maxRecDepth 100000 in
set_option maxHeartbeats 4000000 in
theorem m_X6_spring (l : Launch) (D : va_G) (cI cJ cZ : ClassId) (x : Nat → Nat) (y : Nat) (C : Cf) (N : Nat → Nat) (S : St) (Qk : Nat → Int64) (Z : St) (v q r : Int32) (hC : Cok C N) (hc0 : cS3 (N 2) v q r = 0) : g_Ct l D cI cJ cZ yX6_spring cX6_spring 4 (some .int) rm_X6_spring 0 0 [.ref (x 0), .int v, .int q, .int r] (wX x y cI cJ cZ C N S Qk Z) (g_eq (some (.int (nI (N 2)))) (wX x y cI cJ cZ (c2 (c2 (c2 C 7 (N 2) v) 8 (N 2) q) 9 (N 2) r) (n2 N 2 (N 2 + 1)) S Qk Z)) := by
  refine g_body RX6 [(0, .ref (x 0)), (1, .int v), (2, .int q), (3, .int r)] kH_X6 rfl (Nat.le_of_ble_eq_true rfl) rfl ?_
  intro p e s m args below meth c A X hr hlk hmn Q hQ
  have hN0 := hC.n0
  have hN1 := hC.n1
  have hN2 := hC.n2
  have hk0 := cS3_a hc0
  obtain ⟨h0a, h0b, h0c, h0d⟩ := hk0
  refine g_iload_n X 1 dX6_spring_0 rfl rfl ?_
  refine g_bipush X (v := nI 12) dX6_spring_1 (by decide +kernel) ?_
  refine g_callS X (As := [.int v, .int (nI 12)]) (rest := []) (m_X6_requireIndex l D cI cJ cZ v 12 (nI 11) (by decide +kernel) (by omega) (by assumption)) kM_X6_19 kT_yX6_requireIndex kZ_RX6 kC_yX6_requireIndex hV_X6_requireIndex rfl rfl rfl ⟨Nat.le_of_ble_eq_true rfl, Nat.le_of_ble_eq_true rfl⟩ ⟨Nat.le_of_ble_eq_true rfl, Nat.le_of_ble_eq_true rfl⟩ (Nat.le_of_ble_eq_true rfl) dX6_spring_3 rfl [] rfl (by decide +kernel) (g_kk1 (w2 := wX x y cI cJ cZ C N S Qk Z) em0 ?_)
  refine g_iload_n X 2 dX6_spring_6 rfl rfl ?_
  refine g_iconst X (v := nI 0) dX6_spring_7 (by decide +kernel) ?_
  refine g_ldc X kN_X6_23 dX6_spring_8 (v' := nI 50000) (by decide +kernel) ?_
  refine g_callS X (As := [.int q, .int (nI 0), .int (nI 50000)]) (rest := []) (m_X6_requireRange l D cI cJ cZ q (nI 0) (nI 50000) (by assumption)) kM_X6_24 kT_yX6_requireRange kZ_RX6 kC_yX6_requireRange hV_X6_requireRange rfl rfl rfl ⟨Nat.le_of_ble_eq_true rfl, Nat.le_of_ble_eq_true rfl⟩ ⟨Nat.le_of_ble_eq_true rfl, Nat.le_of_ble_eq_true rfl⟩ (Nat.le_of_ble_eq_true rfl) dX6_spring_10 rfl [] rfl (by decide +kernel) (g_kk1 (w2 := wX x y cI cJ cZ C N S Qk Z) em0 ?_)
  refine g_iload_n X 3 dX6_spring_13 rfl rfl ?_
  refine g_iconst X (v := nI 0) dX6_spring_14 (by decide +kernel) ?_
  refine g_ldc X kN_X6_23 dX6_spring_15 (v' := nI 50000) (by decide +kernel) ?_
  refine g_callS X (As := [.int r, .int (nI 0), .int (nI 50000)]) (rest := []) (m_X6_requireRange l D cI cJ cZ r (nI 0) (nI 50000) (by assumption)) kM_X6_24 kT_yX6_requireRange kZ_RX6 kC_yX6_requireRange hV_X6_requireRange rfl rfl rfl ⟨Nat.le_of_ble_eq_true rfl, Nat.le_of_ble_eq_true rfl⟩ ⟨Nat.le_of_ble_eq_true rfl, Nat.le_of_ble_eq_true rfl⟩ (Nat.le_of_ble_eq_true rfl) dX6_spring_17 rfl [] rfl (by decide +kernel) (g_kk1 (w2 := wX x y cI cJ cZ C N S Qk Z) em0 ?_)
  refine g_aload_n X 0 dX6_spring_20 rfl rfl ?_
  refine g_get X (C := RX6) (T := TX6) (N := 2) (v := .ref (x 1)) inlX6 0 rfl rfl 0 (Nat.le_of_ble_eq_true rfl) kF_X6_10 rfl dX6_spring_21 ?_
  refine g_get X (C := RX0) (T := TX0) (N := 11) (v := .ref (x 24)) inlX0 1 rfl rfl 5 (Nat.le_of_ble_eq_true rfl) kF_X6_98 rfl dX6_spring_24 ?_
  refine g_get X (C := RX3) (T := TX3) (N := 7) (v := .int (nI (N 2))) inlX3 24 rfl rfl 0 (Nat.le_of_ble_eq_true rfl) kF_X6_102 rfl dX6_spring_27 ?_
  refine g_iconst X (v := nI 4) dX6_spring_30 (by decide +kernel) ?_
  have J3 : ∀ (v2 : Bool), v2 = (if 4 ≤ N 2 then false else true) → g_G p l e rm_X6_spring s m args below meth c D A 4 0 0 Q (wX x y cI cJ cZ C N S Qk Z) [(0, .ref (x 0)), (1, .int v), (2, .int q), (3, .int r)] 39 [.int (bI v2)] := by
    intro v2 ev2
    replace ev2 := ev2.trans (show _ = decide (¬ N 2 = 4) from sz_ne hC.n2)
    refine g_callS X (As := [.int (bI v2)]) (rest := []) (m_X6_requireState l D cI cJ cZ v2 (by rw [ev2]; exact decide_eq_true h0d)) kM_X6_32 kT_yX6_requireState kZ_RX6 kC_yX6_requireState hV_X6_requireState rfl rfl rfl ⟨Nat.le_of_ble_eq_true rfl, Nat.le_of_ble_eq_true rfl⟩ ⟨Nat.le_of_ble_eq_true rfl, Nat.le_of_ble_eq_true rfl⟩ (Nat.le_of_ble_eq_true rfl) dX6_spring_39 rfl [] rfl (by decide +kernel) (g_kk1 (w2 := wX x y cI cJ cZ C N S Qk Z) em0 ?_)
    refine g_aload_n X 0 dX6_spring_42 rfl rfl ?_
    refine g_get X (C := RX6) (T := TX6) (N := 2) (v := .ref (x 1)) inlX6 0 rfl rfl 0 (Nat.le_of_ble_eq_true rfl) kF_X6_10 rfl dX6_spring_43 ?_
    refine g_get X (C := RX0) (T := TX0) (N := 11) (v := .ref (x 24)) inlX0 1 rfl rfl 5 (Nat.le_of_ble_eq_true rfl) kF_X6_98 rfl dX6_spring_46 ?_
    refine g_iload_n X 1 dX6_spring_49 rfl rfl ?_
    refine g_iload_n X 2 dX6_spring_50 rfl rfl ?_
    refine g_iload_n X 3 dX6_spring_51 rfl rfl ?_
    obtain ⟨C4, eC4⟩ : ∃ z : Cf, z = c2 (c2 (c2 C 7 (N 2) v) 8 (N 2) q) 9 (N 2) r := ⟨_, rfl⟩
    obtain ⟨N5, eN5⟩ : ∃ z : Nat → Nat, z = n2 N 2 (N 2 + 1) := ⟨_, rfl⟩
    refine g_callV X (As := [.int v, .int q, .int r]) (rest := []) (m_X3_add l D cI cJ cZ (fun i => x (24 + i)) C N S v q r (by omega)) kM_X6_105 kI_yX3_add kS_yX3_add kZ_RX3 kC_yX3_add hV_X3_add rfl rfl rfl 0 rfl (ci := 3) rfl ⟨Nat.le_of_ble_eq_true rfl, Nat.le_of_ble_eq_true rfl⟩ ⟨Nat.le_of_ble_eq_true rfl, Nat.le_of_ble_eq_true rfl⟩ (Nat.le_of_ble_eq_true rfl) dX6_spring_52 rfl (em_I 24 7 31 0) (em_C (by decide) (Nat.le_of_ble_eq_true rfl) rfl) (em_nd (by decide)) (g_kk1 (w2 := wX x y cI cJ cZ C4 N5 S Qk Z) (by rw [eN5]; rw [eC4]; exact (em3 24 7 31 0 (by decide) (Nat.le_of_ble_eq_true rfl) rfl rfl rfl)) ?_)
    refine g_iret X hr hlk hQ dX6_spring_55 ?_
    show g_eq _ _ _ _
    try rw [eN5]
    try rw [eC4]
    try rw [ev2]
    exact ⟨rfl, rfl⟩
  refine g_icN_ge X (a := N 2) (b := 4) (tgt := 38) (by omega) (by omega) dX6_spring_31 (by decide) (fun h1 => ?_) (fun h1 => ?_)
  · --
    refine g_iconst X (v := nI 0) dX6_spring_38 (by decide +kernel) ?_
    exact J3 _ (by rw [if_pos (c := 4 ≤ N 2) h1])
  · --
    refine g_iconst X (v := nI 1) dX6_spring_34 (by decide +kernel) ?_
    refine g_goto X (tgt := 39) dX6_spring_35 (by decide) ?_
    exact J3 _ (by rw [if_neg (c := 4 ≤ N 2) h1])
abbrev rm_X6_springX : Room := { frames := 8, cells := 1, slots := 6, locals := 124 }
set_option maxRecDepth 100000 in
set_option maxHeartbeats 4000000 in
theorem m_X6_springX (l : Launch) (hl0 : l.stackTraces = false) (D : va_G) (cI cJ cZ : ClassId) (B0 : Nat) (x : Nat → Nat) (y : Nat) (C : Cf) (N : Nat → Nat) (S : St) (Qk : Nat → Int64) (Z : St) (v q r : Int32) (hC : Cok C N) (hc1 : ¬ cS3 (N 2) v q r = 0) (hB : g_Bw B0 (wX x y cI cJ cZ C N S Qk Z)) : g_CtX l D cI cJ cZ B0 yX6_spring cX6_spring 4 (some .int) rm_X6_springX 1 6 [.ref (x 0), .int v, .int q, .int r] (wX x y cI cJ cZ C N S Qk Z) (fun _ _ => False) (fun E w => E = eA (cS3 (N 2) v q r) ∧ w = wX x y cI cJ cZ C N S Qk Z) := by
  refine g_bodyX RX6 [(0, .ref (x 0)), (1, .int v), (2, .int q), (3, .int r)] kH_X6 rfl (Nat.le_of_ble_eq_true rfl) rfl hB ?_
  intro p e s m args below meth c A X Y hT hr hlk hmn Q hQ
  have hN0 := hC.n0
  have hN1 := hC.n1
  have hN2 := hC.n2
  refine g_iload_n X 1 dX6_spring_0 rfl rfl ?_
  refine g_bipush X (v := nI 12) dX6_spring_1 (by decide +kernel) ?_
  by_cases hok1 : inB v (nI 0) (nI 11) = true
  · --
    refine g_callS X (As := [.int v, .int (nI 12)]) (rest := []) (m_X6_requireIndex l D cI cJ cZ v 12 (nI 11) (by decide +kernel) (by omega) hok1) kM_X6_19 kT_yX6_requireIndex kZ_RX6 kC_yX6_requireIndex hV_X6_requireIndex rfl rfl rfl ⟨Nat.le_of_ble_eq_true rfl, Nat.le_of_ble_eq_true rfl⟩ ⟨Nat.le_of_ble_eq_true rfl, Nat.le_of_ble_eq_true rfl⟩ (Nat.le_of_ble_eq_true rfl) dX6_spring_3 rfl [] rfl rfl (g_kk1 (w2 := wX x y cI cJ cZ C N S Qk Z) em0 ?_)
    refine g_iload_n X 2 dX6_spring_6 rfl rfl ?_
    refine g_iconst X (v := nI 0) dX6_spring_7 (by decide +kernel) ?_
    refine g_ldc X kN_X6_23 dX6_spring_8 (v' := nI 50000) (by decide +kernel) ?_
    by_cases hok2 : inB q (nI 0) (nI 50000) = true
    · --
      refine g_callS X (As := [.int q, .int (nI 0), .int (nI 50000)]) (rest := []) (m_X6_requireRange l D cI cJ cZ q (nI 0) (nI 50000) hok2) kM_X6_24 kT_yX6_requireRange kZ_RX6 kC_yX6_requireRange hV_X6_requireRange rfl rfl rfl ⟨Nat.le_of_ble_eq_true rfl, Nat.le_of_ble_eq_true rfl⟩ ⟨Nat.le_of_ble_eq_true rfl, Nat.le_of_ble_eq_true rfl⟩ (Nat.le_of_ble_eq_true rfl) dX6_spring_10 rfl [] rfl rfl (g_kk1 (w2 := wX x y cI cJ cZ C N S Qk Z) em0 ?_)
      refine g_iload_n X 3 dX6_spring_13 rfl rfl ?_
      refine g_iconst X (v := nI 0) dX6_spring_14 (by decide +kernel) ?_
      refine g_ldc X kN_X6_23 dX6_spring_15 (v' := nI 50000) (by decide +kernel) ?_
      by_cases hok3 : inB r (nI 0) (nI 50000) = true
      · --
        refine g_callS X (As := [.int r, .int (nI 0), .int (nI 50000)]) (rest := []) (m_X6_requireRange l D cI cJ cZ r (nI 0) (nI 50000) hok3) kM_X6_24 kT_yX6_requireRange kZ_RX6 kC_yX6_requireRange hV_X6_requireRange rfl rfl rfl ⟨Nat.le_of_ble_eq_true rfl, Nat.le_of_ble_eq_true rfl⟩ ⟨Nat.le_of_ble_eq_true rfl, Nat.le_of_ble_eq_true rfl⟩ (Nat.le_of_ble_eq_true rfl) dX6_spring_17 rfl [] rfl rfl (g_kk1 (w2 := wX x y cI cJ cZ C N S Qk Z) em0 ?_)
        refine g_aload_n X 0 dX6_spring_20 rfl rfl ?_
        refine g_get X (C := RX6) (T := TX6) (N := 2) (v := .ref (x 1)) inlX6 0 rfl rfl 0 (Nat.le_of_ble_eq_true rfl) kF_X6_10 rfl dX6_spring_21 ?_
        refine g_get X (C := RX0) (T := TX0) (N := 11) (v := .ref (x 24)) inlX0 1 rfl rfl 5 (Nat.le_of_ble_eq_true rfl) kF_X6_98 rfl dX6_spring_24 ?_
        refine g_get X (C := RX3) (T := TX3) (N := 7) (v := .int (nI (N 2))) inlX3 24 rfl rfl 0 (Nat.le_of_ble_eq_true rfl) kF_X6_102 rfl dX6_spring_27 ?_
        refine g_iconst X (v := nI 4) dX6_spring_30 (by decide +kernel) ?_
        have J6 : ∀ (v5 : Bool), v5 = (if 4 ≤ N 2 then false else true) → g_G p l e rm_X6_springX s m args below meth c D A 4 0 0 Q (wX x y cI cJ cZ C N S Qk Z) [(0, .ref (x 0)), (1, .int v), (2, .int q), (3, .int r)] 39 [.int (bI v5)] := by
          intro v5 ev5
          replace ev5 := ev5.trans (show _ = decide (¬ N 2 = 4) from sz_ne hC.n2)
          by_cases hok7 : v5 = true
          · --
            refine g_callS X (As := [.int (bI v5)]) (rest := []) (m_X6_requireState l D cI cJ cZ v5 hok7) kM_X6_32 kT_yX6_requireState kZ_RX6 kC_yX6_requireState hV_X6_requireState rfl rfl rfl ⟨Nat.le_of_ble_eq_true rfl, Nat.le_of_ble_eq_true rfl⟩ ⟨Nat.le_of_ble_eq_true rfl, Nat.le_of_ble_eq_true rfl⟩ (Nat.le_of_ble_eq_true rfl) dX6_spring_39 rfl [] rfl rfl (g_kk1 (w2 := wX x y cI cJ cZ C N S Qk Z) em0 ?_)
            rw [ev5] at *
            refine absurd ?_ hc1
            (try clear evn); (try clear eqn)
            unfold cS3
            (repeat' split) <;> first | rfl | (exfalso; simp_all; done)
          · --
            refine g_callSX X Y hT hlk hQ (As := [.int (bI v5)]) (rest := []) (m_X6_requireStateX l hl0 D cI cJ cZ B0 v5 (eq_false_of_ne_true hok7)) kM_X6_32 kT_yX6_requireState kZ_RX6 kC_yX6_requireState hV_X6_requireState rfl rfl rfl ⟨Nat.le_of_ble_eq_true rfl, Nat.le_of_ble_eq_true rfl⟩ ⟨Nat.le_of_ble_eq_true rfl, Nat.le_of_ble_eq_true rfl⟩ (Nat.le_of_ble_eq_true rfl) dX6_spring_39 rfl em0 (Nat.le_of_ble_eq_true rfl) (Nat.le_of_ble_eq_true rfl) ?_
            rw [ev5] at *
            refine ⟨?_, rfl⟩
            (try clear evn); (try clear eqn)
            unfold cS3
            (repeat' split) <;> first | (exfalso; simp_all; done) | rfl
        refine g_icN_ge X (a := N 2) (b := 4) (tgt := 38) (by omega) (by omega) dX6_spring_31 (by decide) (fun h4 => ?_) (fun h4 => ?_)
        · --
          refine g_iconst X (v := nI 0) dX6_spring_38 (by decide +kernel) ?_
          exact J6 _ (by rw [if_pos (c := 4 ≤ N 2) h4])
        · --
          refine g_iconst X (v := nI 1) dX6_spring_34 (by decide +kernel) ?_
          refine g_goto X (tgt := 39) dX6_spring_35 (by decide) ?_
          exact J6 _ (by rw [if_neg (c := 4 ≤ N 2) h4])
      · --
        refine g_callSX X Y hT hlk hQ (As := [.int r, .int (nI 0), .int (nI 50000)]) (rest := []) (m_X6_requireRangeX l hl0 D cI cJ cZ B0 r (nI 0) (nI 50000) (eq_false_of_ne_true hok3)) kM_X6_24 kT_yX6_requireRange kZ_RX6 kC_yX6_requireRange hV_X6_requireRange rfl rfl rfl ⟨Nat.le_of_ble_eq_true rfl, Nat.le_of_ble_eq_true rfl⟩ ⟨Nat.le_of_ble_eq_true rfl, Nat.le_of_ble_eq_true rfl⟩ (Nat.le_of_ble_eq_true rfl) dX6_spring_17 rfl em0 (Nat.le_of_ble_eq_true rfl) (Nat.le_of_ble_eq_true rfl) ?_
        refine ⟨?_, rfl⟩
        (try clear evn); (try clear eqn)
        unfold cS3
        (repeat' split) <;> first | (exfalso; simp_all; done) | rfl
    · --
      refine g_callSX X Y hT hlk hQ (As := [.int q, .int (nI 0), .int (nI 50000)]) (rest := []) (m_X6_requireRangeX l hl0 D cI cJ cZ B0 q (nI 0) (nI 50000) (eq_false_of_ne_true hok2)) kM_X6_24 kT_yX6_requireRange kZ_RX6 kC_yX6_requireRange hV_X6_requireRange rfl rfl rfl ⟨Nat.le_of_ble_eq_true rfl, Nat.le_of_ble_eq_true rfl⟩ ⟨Nat.le_of_ble_eq_true rfl, Nat.le_of_ble_eq_true rfl⟩ (Nat.le_of_ble_eq_true rfl) dX6_spring_10 rfl em0 (Nat.le_of_ble_eq_true rfl) (Nat.le_of_ble_eq_true rfl) ?_
      refine ⟨?_, rfl⟩
      (try clear evn); (try clear eqn)
      unfold cS3
      (repeat' split) <;> first | (exfalso; simp_all; done) | rfl
  · --
    refine g_callSX X Y hT hlk hQ (As := [.int v, .int (nI 12)]) (rest := []) (m_X6_requireIndexX l hl0 D cI cJ cZ B0 v 12 (nI 11) (by decide +kernel) (by omega) (eq_false_of_ne_true hok1)) kM_X6_19 kT_yX6_requireIndex kZ_RX6 kC_yX6_requireIndex hV_X6_requireIndex rfl rfl rfl ⟨Nat.le_of_ble_eq_true rfl, Nat.le_of_ble_eq_true rfl⟩ ⟨Nat.le_of_ble_eq_true rfl, Nat.le_of_ble_eq_true rfl⟩ (Nat.le_of_ble_eq_true rfl) dX6_spring_3 rfl em0 (Nat.le_of_ble_eq_true rfl) (Nat.le_of_ble_eq_true rfl) ?_
    refine ⟨?_, rfl⟩
    (try clear evn); (try clear eqn)
    unfold cS3
    (repeat' split) <;> first | (exfalso; simp_all; done) | rfl
theorem hV_X6_promise : yX6_promise.cls = RX6 ∧ yX6_promise.cls ≠ "java/lang/invoke/MethodHandle" ∧ yX6_promise.cls ≠ "java/lang/invoke/VarHandle" ∧ (parseMethodDescriptor yX6_promise.desc).map (fun d => d.parameters.length) = some 2 := by decide +kernel
abbrev rm_X6_promise : Room := { frames := 2, cells := 0, slots := 0, locals := 42 }
set_option maxRecDepth 100000 in
set_option maxHeartbeats 4000000 in
theorem m_X6_promise (l : Launch) (D : va_G) (cI cJ cZ : ClassId) (x : Nat → Nat) (y : Nat) (C : Cf) (N : Nat → Nat) (S : St) (Qk : Nat → Int64) (Z : St) (v q : Int32) (hC : Cok C N) (hc0 : cI2 (N 2) v q (nI 0) (nI 50000) = 0) : g_Ct l D cI cJ cZ yX6_promise cX6_promise 4 (some .int) rm_X6_promise 0 0 [.ref (x 0), .int v, .int q] (wX x y cI cJ cZ C N S Qk Z) (g_eq (some (.int (C 9 (nN v)))) (wX x y cI cJ cZ (c2 C 9 (nN v) q) N S Qk Z)) := by
  refine g_body RX6 [(0, .ref (x 0)), (1, .int v), (2, .int q)] kH_X6 rfl (Nat.le_of_ble_eq_true rfl) rfl ?_
  intro p e s m args below meth c A X hr hlk hmn Q hQ
  have hN0 := hC.n0
  have hN1 := hC.n1
  have hN2 := hC.n2
  have hk0 := cI2_0 hc0
  obtain ⟨h0a, h0b⟩ := hk0
  refine g_iload_n X 1 dX6_promise_0 rfl rfl ?_
  refine g_aload_n X 0 dX6_promise_1 rfl rfl ?_
  refine g_get X (C := RX6) (T := TX6) (N := 2) (v := .ref (x 1)) inlX6 0 rfl rfl 0 (Nat.le_of_ble_eq_true rfl) kF_X6_10 rfl dX6_promise_2 ?_
  refine g_get X (C := RX0) (T := TX0) (N := 11) (v := .ref (x 24)) inlX0 1 rfl rfl 5 (Nat.le_of_ble_eq_true rfl) kF_X6_98 rfl dX6_promise_5 ?_
  refine g_get X (C := RX3) (T := TX3) (N := 7) (v := .int (nI (N 2))) inlX3 24 rfl rfl 0 (Nat.le_of_ble_eq_true rfl) kF_X6_102 rfl dX6_promise_8 ?_
  refine g_callS X (As := [.int v, .int (nI (N 2))]) (rest := []) (m_X6_requireIndex l D cI cJ cZ v (N 2) (nI (N 2) - nI 1) rfl (by omega) (by assumption)) kM_X6_19 kT_yX6_requireIndex kZ_RX6 kC_yX6_requireIndex hV_X6_requireIndex rfl rfl rfl ⟨Nat.le_of_ble_eq_true rfl, Nat.le_of_ble_eq_true rfl⟩ ⟨Nat.le_of_ble_eq_true rfl, Nat.le_of_ble_eq_true rfl⟩ (Nat.le_of_ble_eq_true rfl) dX6_promise_11 rfl [] rfl (by decide +kernel) (g_kk1 (w2 := wX x y cI cJ cZ C N S Qk Z) em0 ?_)
  refine g_iload_n X 2 dX6_promise_14 rfl rfl ?_
  refine g_iconst X (v := nI 0) dX6_promise_15 (by decide +kernel) ?_
  refine g_ldc X kN_X6_23 dX6_promise_16 (v' := nI 50000) (by decide +kernel) ?_
  refine g_callS X (As := [.int q, .int (nI 0), .int (nI 50000)]) (rest := []) (m_X6_requireRange l D cI cJ cZ q (nI 0) (nI 50000) (by assumption)) kM_X6_24 kT_yX6_requireRange kZ_RX6 kC_yX6_requireRange hV_X6_requireRange rfl rfl rfl ⟨Nat.le_of_ble_eq_true rfl, Nat.le_of_ble_eq_true rfl⟩ ⟨Nat.le_of_ble_eq_true rfl, Nat.le_of_ble_eq_true rfl⟩ (Nat.le_of_ble_eq_true rfl) dX6_promise_18 rfl [] rfl (by decide +kernel) (g_kk1 (w2 := wX x y cI cJ cZ C N S Qk Z) em0 ?_)
  refine g_aload_n X 0 dX6_promise_21 rfl rfl ?_
  refine g_get X (C := RX6) (T := TX6) (N := 2) (v := .ref (x 1)) inlX6 0 rfl rfl 0 (Nat.le_of_ble_eq_true rfl) kF_X6_10 rfl dX6_promise_22 ?_
  refine g_get X (C := RX0) (T := TX0) (N := 11) (v := .ref (x 24)) inlX0 1 rfl rfl 5 (Nat.le_of_ble_eq_true rfl) kF_X6_98 rfl dX6_promise_25 ?_
  refine g_get X (C := RX3) (T := TX3) (N := 7) (v := .ref (x 27)) inlX3 24 rfl rfl 3 (Nat.le_of_ble_eq_true rfl) kF_X6_107 rfl dX6_promise_28 ?_
  refine g_iload_n X 1 dX6_promise_31 rfl rfl ?_
  obtain ⟨hvn, evn⟩ := inB_m (v := v) (n := N 2) (by omega) (by assumption)
  refine g_iald X 27 rfl (nN v) evn (by omega) (Nat.le_of_ble_eq_true rfl) (v := C 9 (nN v)) rfl dX6_promise_32 ?_
  refine g_istore_n X [(3, .int (C 9 (nN v))), (0, .ref (x 0)), (1, .int v), (2, .int q)] dX6_promise_33 rfl (Nat.le_of_ble_eq_true rfl) rfl ?_
  refine g_aload_n X 1 dX6_promise_34 rfl rfl ?_
  refine g_get X (C := RX6) (T := TX6) (N := 2) (v := .ref (x 1)) inlX6 0 rfl rfl 0 (Nat.le_of_ble_eq_true rfl) kF_X6_10 rfl dX6_promise_35 ?_
  refine g_get X (C := RX0) (T := TX0) (N := 11) (v := .ref (x 24)) inlX0 1 rfl rfl 5 (Nat.le_of_ble_eq_true rfl) kF_X6_98 rfl dX6_promise_38 ?_
  refine g_get X (C := RX3) (T := TX3) (N := 7) (v := .ref (x 27)) inlX3 24 rfl rfl 3 (Nat.le_of_ble_eq_true rfl) kF_X6_107 rfl dX6_promise_41 ?_
  refine g_iload_n X 2 dX6_promise_44 rfl rfl ?_
  refine g_iload_n X 3 dX6_promise_45 rfl rfl ?_
  obtain ⟨C1, eC1⟩ : ∃ z : Cf, z = c2 C 9 (nN v) q := ⟨_, rfl⟩
  refine g_iast X (ws' := wX x y cI cJ cZ C1 N S Qk Z) 27 rfl (nN v) evn (by omega) (Nat.le_of_ble_eq_true rfl) dX6_promise_46 (by rw [eC1]; first | done | (rfl)) ?_
  refine g_iload_n X 0 dX6_promise_47 rfl rfl ?_
  refine g_iret X hr hlk hQ dX6_promise_48 ?_
  show g_eq _ _ _ _
  try rw [eC1]
  exact ⟨rfl, rfl⟩
abbrev rm_X6_promiseX : Room := { frames := 8, cells := 1, slots := 6, locals := 124 }
set_option maxRecDepth 100000 in
set_option maxHeartbeats 4000000 in
theorem m_X6_promiseX (l : Launch) (hl0 : l.stackTraces = false) (D : va_G) (cI cJ cZ : ClassId) (B0 : Nat) (x : Nat → Nat) (y : Nat) (C : Cf) (N : Nat → Nat) (S : St) (Qk : Nat → Int64) (Z : St) (v q : Int32) (hC : Cok C N) (hc1 : ¬ cI2 (N 2) v q (nI 0) (nI 50000) = 0) (hB : g_Bw B0 (wX x y cI cJ cZ C N S Qk Z)) : g_CtX l D cI cJ cZ B0 yX6_promise cX6_promise 4 (some .int) rm_X6_promiseX 1 6 [.ref (x 0), .int v, .int q] (wX x y cI cJ cZ C N S Qk Z) (fun _ _ => False) (fun E w => E = eA (cI2 (N 2) v q (nI 0) (nI 50000)) ∧ w = wX x y cI cJ cZ C N S Qk Z) := by
  refine g_bodyX RX6 [(0, .ref (x 0)), (1, .int v), (2, .int q)] kH_X6 rfl (Nat.le_of_ble_eq_true rfl) rfl hB ?_
  intro p e s m args below meth c A X Y hT hr hlk hmn Q hQ
  have hN0 := hC.n0
  have hN1 := hC.n1
  have hN2 := hC.n2
  refine g_iload_n X 1 dX6_promise_0 rfl rfl ?_
  refine g_aload_n X 0 dX6_promise_1 rfl rfl ?_
  refine g_get X (C := RX6) (T := TX6) (N := 2) (v := .ref (x 1)) inlX6 0 rfl rfl 0 (Nat.le_of_ble_eq_true rfl) kF_X6_10 rfl dX6_promise_2 ?_
  refine g_get X (C := RX0) (T := TX0) (N := 11) (v := .ref (x 24)) inlX0 1 rfl rfl 5 (Nat.le_of_ble_eq_true rfl) kF_X6_98 rfl dX6_promise_5 ?_
  refine g_get X (C := RX3) (T := TX3) (N := 7) (v := .int (nI (N 2))) inlX3 24 rfl rfl 0 (Nat.le_of_ble_eq_true rfl) kF_X6_102 rfl dX6_promise_8 ?_
  by_cases hok1 : inB v (nI 0) (nI (N 2) - nI 1) = true
  · --
    refine g_callS X (As := [.int v, .int (nI (N 2))]) (rest := []) (m_X6_requireIndex l D cI cJ cZ v (N 2) (nI (N 2) - nI 1) rfl (by omega) hok1) kM_X6_19 kT_yX6_requireIndex kZ_RX6 kC_yX6_requireIndex hV_X6_requireIndex rfl rfl rfl ⟨Nat.le_of_ble_eq_true rfl, Nat.le_of_ble_eq_true rfl⟩ ⟨Nat.le_of_ble_eq_true rfl, Nat.le_of_ble_eq_true rfl⟩ (Nat.le_of_ble_eq_true rfl) dX6_promise_11 rfl [] rfl rfl (g_kk1 (w2 := wX x y cI cJ cZ C N S Qk Z) em0 ?_)
    refine g_iload_n X 2 dX6_promise_14 rfl rfl ?_
    refine g_iconst X (v := nI 0) dX6_promise_15 (by decide +kernel) ?_
    refine g_ldc X kN_X6_23 dX6_promise_16 (v' := nI 50000) (by decide +kernel) ?_
    by_cases hok2 : inB q (nI 0) (nI 50000) = true
    · --
      refine g_callS X (As := [.int q, .int (nI 0), .int (nI 50000)]) (rest := []) (m_X6_requireRange l D cI cJ cZ q (nI 0) (nI 50000) hok2) kM_X6_24 kT_yX6_requireRange kZ_RX6 kC_yX6_requireRange hV_X6_requireRange rfl rfl rfl ⟨Nat.le_of_ble_eq_true rfl, Nat.le_of_ble_eq_true rfl⟩ ⟨Nat.le_of_ble_eq_true rfl, Nat.le_of_ble_eq_true rfl⟩ (Nat.le_of_ble_eq_true rfl) dX6_promise_18 rfl [] rfl rfl (g_kk1 (w2 := wX x y cI cJ cZ C N S Qk Z) em0 ?_)
      refine absurd ?_ hc1
      (try clear evn); (try clear eqn)
      unfold cI2
      (repeat' split) <;> first | rfl | (exfalso; simp_all; done)
    · --
      refine g_callSX X Y hT hlk hQ (As := [.int q, .int (nI 0), .int (nI 50000)]) (rest := []) (m_X6_requireRangeX l hl0 D cI cJ cZ B0 q (nI 0) (nI 50000) (eq_false_of_ne_true hok2)) kM_X6_24 kT_yX6_requireRange kZ_RX6 kC_yX6_requireRange hV_X6_requireRange rfl rfl rfl ⟨Nat.le_of_ble_eq_true rfl, Nat.le_of_ble_eq_true rfl⟩ ⟨Nat.le_of_ble_eq_true rfl, Nat.le_of_ble_eq_true rfl⟩ (Nat.le_of_ble_eq_true rfl) dX6_promise_18 rfl em0 (Nat.le_of_ble_eq_true rfl) (Nat.le_of_ble_eq_true rfl) ?_
      refine ⟨?_, rfl⟩
      (try clear evn); (try clear eqn)
      unfold cI2
      (repeat' split) <;> first | (exfalso; simp_all; done) | rfl
  · --
    refine g_callSX X Y hT hlk hQ (As := [.int v, .int (nI (N 2))]) (rest := []) (m_X6_requireIndexX l hl0 D cI cJ cZ B0 v (N 2) (nI (N 2) - nI 1) rfl (by omega) (eq_false_of_ne_true hok1)) kM_X6_19 kT_yX6_requireIndex kZ_RX6 kC_yX6_requireIndex hV_X6_requireIndex rfl rfl rfl ⟨Nat.le_of_ble_eq_true rfl, Nat.le_of_ble_eq_true rfl⟩ ⟨Nat.le_of_ble_eq_true rfl, Nat.le_of_ble_eq_true rfl⟩ (Nat.le_of_ble_eq_true rfl) dX6_promise_11 rfl em0 (Nat.le_of_ble_eq_true rfl) (Nat.le_of_ble_eq_true rfl) ?_
    refine ⟨?_, rfl⟩
    (try clear evn); (try clear eqn)
    unfold cI2
    (repeat' split) <;> first | (exfalso; simp_all; done) | rfl
theorem hV_X6_tracer : yX6_tracer.cls = RX6 ∧ yX6_tracer.cls ≠ "java/lang/invoke/MethodHandle" ∧ yX6_tracer.cls ≠ "java/lang/invoke/VarHandle" ∧ (parseMethodDescriptor yX6_tracer.desc).map (fun d => d.parameters.length) = some 2 := by decide +kernel
abbrev rm_X6_tracer : Room := { frames := 2, cells := 0, slots := 0, locals := 42 }
set_option maxRecDepth 100000 in
set_option maxHeartbeats 4000000 in
theorem m_X6_tracer (l : Launch) (D : va_G) (cI cJ cZ : ClassId) (x : Nat → Nat) (y : Nat) (C : Cf) (N : Nat → Nat) (S : St) (Qk : Nat → Int64) (Z : St) (v q : Int32) (hW : Wok S) (hc0 : cT2 S v q = 0) : g_Ct l D cI cJ cZ yX6_tracer cX6_tracer 3 (some .long) rm_X6_tracer 0 0 [.ref (x 0), .int v, .int q] (wX x y cI cJ cZ C N S Qk Z) (g_eq (some (.long (S 2 (nN v) + q.toInt64))) (wX x y cI cJ cZ C N (u2 S 2 (nN v) (S 2 (nN v) + q.toInt64)) Qk Z)) := by
  refine g_body RX6 [(0, .ref (x 0)), (1, .int v), (2, .int q)] kH_X6 rfl (Nat.le_of_ble_eq_true rfl) rfl ?_
  intro p e s m args below meth c A X hr hlk hmn Q hQ
  have hk0 := cT2_a hc0
  obtain ⟨h0a, h0b, h0c⟩ := hk0
  refine g_iload_n X 1 dX6_tracer_0 rfl rfl ?_
  refine g_bipush X (v := nI 12) dX6_tracer_1 (by decide +kernel) ?_
  refine g_callS X (As := [.int v, .int (nI 12)]) (rest := []) (m_X6_requireIndex l D cI cJ cZ v 12 (nI 11) (by decide +kernel) (by omega) (by assumption)) kM_X6_19 kT_yX6_requireIndex kZ_RX6 kC_yX6_requireIndex hV_X6_requireIndex rfl rfl rfl ⟨Nat.le_of_ble_eq_true rfl, Nat.le_of_ble_eq_true rfl⟩ ⟨Nat.le_of_ble_eq_true rfl, Nat.le_of_ble_eq_true rfl⟩ (Nat.le_of_ble_eq_true rfl) dX6_tracer_3 rfl [] rfl (by decide +kernel) (g_kk1 (w2 := wX x y cI cJ cZ C N S Qk Z) em0 ?_)
  refine g_iload_n X 2 dX6_tracer_6 rfl rfl ?_
  refine g_iconst X (v := nI 1) dX6_tracer_7 (by decide +kernel) ?_
  refine g_ldc X kN_X6_110 dX6_tracer_8 (v' := nI 100000) (by decide +kernel) ?_
  refine g_callS X (As := [.int q, .int (nI 1), .int (nI 100000)]) (rest := []) (m_X6_requireRange l D cI cJ cZ q (nI 1) (nI 100000) (by assumption)) kM_X6_24 kT_yX6_requireRange kZ_RX6 kC_yX6_requireRange hV_X6_requireRange rfl rfl rfl ⟨Nat.le_of_ble_eq_true rfl, Nat.le_of_ble_eq_true rfl⟩ ⟨Nat.le_of_ble_eq_true rfl, Nat.le_of_ble_eq_true rfl⟩ (Nat.le_of_ble_eq_true rfl) dX6_tracer_10 rfl [] rfl (by decide +kernel) (g_kk1 (w2 := wX x y cI cJ cZ C N S Qk Z) em0 ?_)
  refine g_aload_n X 0 dX6_tracer_13 rfl rfl ?_
  refine g_get X (C := RX6) (T := TX6) (N := 2) (v := .ref (x 1)) inlX6 0 rfl rfl 0 (Nat.le_of_ble_eq_true rfl) kF_X6_10 rfl dX6_tracer_14 ?_
  refine g_get X (C := RX0) (T := TX0) (N := 11) (v := .ref (x 2)) inlX0 1 rfl rfl 2 (Nat.le_of_ble_eq_true rfl) kF_X6_36 rfl dX6_tracer_17 ?_
  refine g_get X (C := RX1) (T := TX1) (N := 9) (v := .ref (x 3)) inlX1 2 rfl rfl 0 (Nat.le_of_ble_eq_true rfl) kF_X6_40 rfl dX6_tracer_20 ?_
  refine g_iload_n X 1 dX6_tracer_23 rfl rfl ?_
  obtain ⟨hvn, evn⟩ := inB_k (v := v) (n := 11) (by decide) (by assumption)
  refine g_lald X 3 rfl (nN v) evn (by omega) (Nat.le_of_ble_eq_true rfl) (v := S 0 (nN v)) rfl dX6_tracer_24 ?_
  refine g_lconst X (v := 0) dX6_tracer_25 (by decide +kernel) ?_
  have J3 : ∀ (v2 : Bool), v2 = (if (S 0 (nN v)) ≤ (0 : Int64) then false else true) → g_G p l e rm_X6_tracer s m args below meth c D A 3 0 0 Q (wX x y cI cJ cZ C N S Qk Z) [(0, .ref (x 0)), (1, .int v), (2, .int q)] 35 [.int (bI v2)] := by
    intro v2 ev2
    replace ev2 := ev2.trans (show _ = decide (¬ S 0 (nN v) = 0) from wz_d (hW _ hvn).1)
    refine g_callS X (As := [.int (bI v2)]) (rest := []) (m_X6_requireState l D cI cJ cZ v2 (by rw [ev2]; exact decide_eq_true h0c)) kM_X6_32 kT_yX6_requireState kZ_RX6 kC_yX6_requireState hV_X6_requireState rfl rfl rfl ⟨Nat.le_of_ble_eq_true rfl, Nat.le_of_ble_eq_true rfl⟩ ⟨Nat.le_of_ble_eq_true rfl, Nat.le_of_ble_eq_true rfl⟩ (Nat.le_of_ble_eq_true rfl) dX6_tracer_35 rfl [] rfl (by decide +kernel) (g_kk1 (w2 := wX x y cI cJ cZ C N S Qk Z) em0 ?_)
    refine g_aload_n X 0 dX6_tracer_38 rfl rfl ?_
    refine g_get X (C := RX6) (T := TX6) (N := 2) (v := .ref (x 1)) inlX6 0 rfl rfl 0 (Nat.le_of_ble_eq_true rfl) kF_X6_10 rfl dX6_tracer_39 ?_
    refine g_get X (C := RX0) (T := TX0) (N := 11) (v := .ref (x 2)) inlX0 1 rfl rfl 2 (Nat.le_of_ble_eq_true rfl) kF_X6_36 rfl dX6_tracer_42 ?_
    refine g_get X (C := RX1) (T := TX1) (N := 9) (v := .ref (x 5)) inlX1 2 rfl rfl 2 (Nat.le_of_ble_eq_true rfl) kF_X6_111 rfl dX6_tracer_45 ?_
    refine g_iload_n X 1 dX6_tracer_48 rfl rfl ?_
    refine g_dup2_11 X dX6_tracer_49 rfl rfl ?_
    refine g_lald X 5 rfl (nN v) evn (by omega) (Nat.le_of_ble_eq_true rfl) (v := S 2 (nN v)) rfl dX6_tracer_50 ?_
    refine g_iload_n X 2 dX6_tracer_51 rfl rfl ?_
    refine g_i2l X (v := q.toInt64) dX6_tracer_52 rfl ?_
    refine g_ladd X (v := (S 2 (nN v)) + q.toInt64) dX6_tracer_53 rfl ?_
    obtain ⟨S4, eS4⟩ : ∃ z : St, z = u2 S 2 (nN v) ((S 2 (nN v)) + q.toInt64) := ⟨_, rfl⟩
    refine g_last X (ws' := wX x y cI cJ cZ C N S4 Qk Z) 5 rfl (nN v) evn (by omega) (Nat.le_of_ble_eq_true rfl) dX6_tracer_54 (by rw [eS4]; first | done | (rfl)) ?_
    refine g_aload_n X 0 dX6_tracer_55 rfl rfl ?_
    refine g_get X (C := RX6) (T := TX6) (N := 2) (v := .ref (x 1)) inlX6 0 rfl rfl 0 (Nat.le_of_ble_eq_true rfl) kF_X6_10 rfl dX6_tracer_56 ?_
    refine g_get X (C := RX0) (T := TX0) (N := 11) (v := .ref (x 2)) inlX0 1 rfl rfl 2 (Nat.le_of_ble_eq_true rfl) kF_X6_36 rfl dX6_tracer_59 ?_
    refine g_get X (C := RX1) (T := TX1) (N := 9) (v := .ref (x 5)) inlX1 2 rfl rfl 2 (Nat.le_of_ble_eq_true rfl) kF_X6_111 rfl dX6_tracer_62 ?_
    refine g_iload_n X 1 dX6_tracer_65 rfl rfl ?_
    refine g_lald X 5 rfl (nN v) evn (by omega) (Nat.le_of_ble_eq_true rfl) (v := S 2 (nN v) + q.toInt64) (rfl.trans (by rw [eS4]; exact u2_same _ _ _ _)) dX6_tracer_66 ?_
    refine g_lret X hr hlk hQ dX6_tracer_67 ?_
    show g_eq _ _ _ _
    try rw [eS4]
    try rw [ev2]
    exact ⟨rfl, rfl⟩
  refine g_lj_le X (tgt := 34) (pc1 := 27) dX6_tracer_26 rfl dX6_tracer_27 (by decide) (fun h1 => ?_) (fun h1 => ?_)
  · --
    refine g_iconst X (v := nI 0) dX6_tracer_34 (by decide +kernel) ?_
    exact J3 _ (by rw [if_pos (c := (S 0 (nN v)) ≤ (0 : Int64)) h1])
  · --
    refine g_iconst X (v := nI 1) dX6_tracer_30 (by decide +kernel) ?_
    refine g_goto X (tgt := 35) dX6_tracer_31 (by decide) ?_
    exact J3 _ (by rw [if_neg (c := (S 0 (nN v)) ≤ (0 : Int64)) h1])
abbrev rm_X6_tracerX : Room := { frames := 8, cells := 1, slots := 6, locals := 124 }
set_option maxRecDepth 100000 in
set_option maxHeartbeats 4000000 in
theorem m_X6_tracerX (l : Launch) (hl0 : l.stackTraces = false) (D : va_G) (cI cJ cZ : ClassId) (B0 : Nat) (x : Nat → Nat) (y : Nat) (C : Cf) (N : Nat → Nat) (S : St) (Qk : Nat → Int64) (Z : St) (v q : Int32) (hW : Wok S) (hc1 : ¬ cT2 S v q = 0) (hB : g_Bw B0 (wX x y cI cJ cZ C N S Qk Z)) : g_CtX l D cI cJ cZ B0 yX6_tracer cX6_tracer 3 (some .long) rm_X6_tracerX 1 6 [.ref (x 0), .int v, .int q] (wX x y cI cJ cZ C N S Qk Z) (fun _ _ => False) (fun E w => E = eA (cT2 S v q) ∧ w = wX x y cI cJ cZ C N S Qk Z) := by
  refine g_bodyX RX6 [(0, .ref (x 0)), (1, .int v), (2, .int q)] kH_X6 rfl (Nat.le_of_ble_eq_true rfl) rfl hB ?_
  intro p e s m args below meth c A X Y hT hr hlk hmn Q hQ
  refine g_iload_n X 1 dX6_tracer_0 rfl rfl ?_
  refine g_bipush X (v := nI 12) dX6_tracer_1 (by decide +kernel) ?_
  by_cases hok1 : inB v (nI 0) (nI 11) = true
  · --
    refine g_callS X (As := [.int v, .int (nI 12)]) (rest := []) (m_X6_requireIndex l D cI cJ cZ v 12 (nI 11) (by decide +kernel) (by omega) hok1) kM_X6_19 kT_yX6_requireIndex kZ_RX6 kC_yX6_requireIndex hV_X6_requireIndex rfl rfl rfl ⟨Nat.le_of_ble_eq_true rfl, Nat.le_of_ble_eq_true rfl⟩ ⟨Nat.le_of_ble_eq_true rfl, Nat.le_of_ble_eq_true rfl⟩ (Nat.le_of_ble_eq_true rfl) dX6_tracer_3 rfl [] rfl rfl (g_kk1 (w2 := wX x y cI cJ cZ C N S Qk Z) em0 ?_)
    refine g_iload_n X 2 dX6_tracer_6 rfl rfl ?_
    refine g_iconst X (v := nI 1) dX6_tracer_7 (by decide +kernel) ?_
    refine g_ldc X kN_X6_110 dX6_tracer_8 (v' := nI 100000) (by decide +kernel) ?_
    by_cases hok2 : inB q (nI 1) (nI 100000) = true
    · --
      refine g_callS X (As := [.int q, .int (nI 1), .int (nI 100000)]) (rest := []) (m_X6_requireRange l D cI cJ cZ q (nI 1) (nI 100000) hok2) kM_X6_24 kT_yX6_requireRange kZ_RX6 kC_yX6_requireRange hV_X6_requireRange rfl rfl rfl ⟨Nat.le_of_ble_eq_true rfl, Nat.le_of_ble_eq_true rfl⟩ ⟨Nat.le_of_ble_eq_true rfl, Nat.le_of_ble_eq_true rfl⟩ (Nat.le_of_ble_eq_true rfl) dX6_tracer_10 rfl [] rfl rfl (g_kk1 (w2 := wX x y cI cJ cZ C N S Qk Z) em0 ?_)
      refine g_aload_n X 0 dX6_tracer_13 rfl rfl ?_
      refine g_get X (C := RX6) (T := TX6) (N := 2) (v := .ref (x 1)) inlX6 0 rfl rfl 0 (Nat.le_of_ble_eq_true rfl) kF_X6_10 rfl dX6_tracer_14 ?_
      refine g_get X (C := RX0) (T := TX0) (N := 11) (v := .ref (x 2)) inlX0 1 rfl rfl 2 (Nat.le_of_ble_eq_true rfl) kF_X6_36 rfl dX6_tracer_17 ?_
      refine g_get X (C := RX1) (T := TX1) (N := 9) (v := .ref (x 3)) inlX1 2 rfl rfl 0 (Nat.le_of_ble_eq_true rfl) kF_X6_40 rfl dX6_tracer_20 ?_
      refine g_iload_n X 1 dX6_tracer_23 rfl rfl ?_
      obtain ⟨hvn, evn⟩ := inB_k (v := v) (n := 11) (by decide) (by assumption)
      refine g_lald X 3 rfl (nN v) evn (by omega) (Nat.le_of_ble_eq_true rfl) (v := S 0 (nN v)) rfl dX6_tracer_24 ?_
      refine g_lconst X (v := 0) dX6_tracer_25 (by decide +kernel) ?_
      have J5 : ∀ (v4 : Bool), v4 = (if (S 0 (nN v)) ≤ (0 : Int64) then false else true) → g_G p l e rm_X6_tracerX s m args below meth c D A 3 0 0 Q (wX x y cI cJ cZ C N S Qk Z) [(0, .ref (x 0)), (1, .int v), (2, .int q)] 35 [.int (bI v4)] := by
        intro v4 ev4
        replace ev4 := ev4.trans (show _ = decide (¬ S 0 (nN v) = 0) from wz_d (hW _ hvn).1)
        by_cases hok6 : v4 = true
        · --
          refine g_callS X (As := [.int (bI v4)]) (rest := []) (m_X6_requireState l D cI cJ cZ v4 hok6) kM_X6_32 kT_yX6_requireState kZ_RX6 kC_yX6_requireState hV_X6_requireState rfl rfl rfl ⟨Nat.le_of_ble_eq_true rfl, Nat.le_of_ble_eq_true rfl⟩ ⟨Nat.le_of_ble_eq_true rfl, Nat.le_of_ble_eq_true rfl⟩ (Nat.le_of_ble_eq_true rfl) dX6_tracer_35 rfl [] rfl rfl (g_kk1 (w2 := wX x y cI cJ cZ C N S Qk Z) em0 ?_)
          rw [ev4] at *
          refine absurd ?_ hc1
          (try clear evn); (try clear eqn)
          unfold cT2
          (repeat' split) <;> first | rfl | (exfalso; simp_all; done)
        · --
          refine g_callSX X Y hT hlk hQ (As := [.int (bI v4)]) (rest := []) (m_X6_requireStateX l hl0 D cI cJ cZ B0 v4 (eq_false_of_ne_true hok6)) kM_X6_32 kT_yX6_requireState kZ_RX6 kC_yX6_requireState hV_X6_requireState rfl rfl rfl ⟨Nat.le_of_ble_eq_true rfl, Nat.le_of_ble_eq_true rfl⟩ ⟨Nat.le_of_ble_eq_true rfl, Nat.le_of_ble_eq_true rfl⟩ (Nat.le_of_ble_eq_true rfl) dX6_tracer_35 rfl em0 (Nat.le_of_ble_eq_true rfl) (Nat.le_of_ble_eq_true rfl) ?_
          rw [ev4] at *
          refine ⟨?_, rfl⟩
          (try clear evn); (try clear eqn)
          unfold cT2
          (repeat' split) <;> first | (exfalso; simp_all; done) | rfl
      refine g_lj_le X (tgt := 34) (pc1 := 27) dX6_tracer_26 rfl dX6_tracer_27 (by decide) (fun h3 => ?_) (fun h3 => ?_)
      · --
        refine g_iconst X (v := nI 0) dX6_tracer_34 (by decide +kernel) ?_
        exact J5 _ (by rw [if_pos (c := (S 0 (nN v)) ≤ (0 : Int64)) h3])
      · --
        refine g_iconst X (v := nI 1) dX6_tracer_30 (by decide +kernel) ?_
        refine g_goto X (tgt := 35) dX6_tracer_31 (by decide) ?_
        exact J5 _ (by rw [if_neg (c := (S 0 (nN v)) ≤ (0 : Int64)) h3])
    · --
      refine g_callSX X Y hT hlk hQ (As := [.int q, .int (nI 1), .int (nI 100000)]) (rest := []) (m_X6_requireRangeX l hl0 D cI cJ cZ B0 q (nI 1) (nI 100000) (eq_false_of_ne_true hok2)) kM_X6_24 kT_yX6_requireRange kZ_RX6 kC_yX6_requireRange hV_X6_requireRange rfl rfl rfl ⟨Nat.le_of_ble_eq_true rfl, Nat.le_of_ble_eq_true rfl⟩ ⟨Nat.le_of_ble_eq_true rfl, Nat.le_of_ble_eq_true rfl⟩ (Nat.le_of_ble_eq_true rfl) dX6_tracer_10 rfl em0 (Nat.le_of_ble_eq_true rfl) (Nat.le_of_ble_eq_true rfl) ?_
      refine ⟨?_, rfl⟩
      (try clear evn); (try clear eqn)
      unfold cT2
      (repeat' split) <;> first | (exfalso; simp_all; done) | rfl
  · --
    refine g_callSX X Y hT hlk hQ (As := [.int v, .int (nI 12)]) (rest := []) (m_X6_requireIndexX l hl0 D cI cJ cZ B0 v 12 (nI 11) (by decide +kernel) (by omega) (eq_false_of_ne_true hok1)) kM_X6_19 kT_yX6_requireIndex kZ_RX6 kC_yX6_requireIndex hV_X6_requireIndex rfl rfl rfl ⟨Nat.le_of_ble_eq_true rfl, Nat.le_of_ble_eq_true rfl⟩ ⟨Nat.le_of_ble_eq_true rfl, Nat.le_of_ble_eq_true rfl⟩ (Nat.le_of_ble_eq_true rfl) dX6_tracer_3 rfl em0 (Nat.le_of_ble_eq_true rfl) (Nat.le_of_ble_eq_true rfl) ?_
    refine ⟨?_, rfl⟩
    (try clear evn); (try clear eqn)
    unfold cT2
    (repeat' split) <;> first | (exfalso; simp_all; done) | rfl
