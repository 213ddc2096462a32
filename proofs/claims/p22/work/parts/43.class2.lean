theorem sz_ne {n k : Nat} (h : n ≤ k) : (if k ≤ n then false else true) = decide (¬ n = k) := by
  by_cases h2 : n = k
  · rw [if_pos (by omega), decide_eq_false (not_not_intro h2)]
  · rw [if_neg (by omega), decide_eq_true h2]
theorem wX_sw {x : Nat → Nat} {y : Nat} {cI cJ cZ : ClassId} {C : Cf} {N : Nat → Nat} {S : St} {Qk : Nat → Int64} {Z : St} {b o : Nat} {r : Int32} : wX x y cI cJ cZ (swC C b o r) N S Qk Z = (x 0, .inr (6, [.ref (x 1), .ref y])) :: (x (1 + 0), .inr (0, [.int (S 13 0).toInt32, .int (C 10 0), .ref (x (1 + 1)), .ref (x (1 + 11)), .ref (x (1 + 20)), .ref (x (1 + 23)), .ref (x (1 + 30)), .ref (x (1 + 34)), .long (Z 3 0), .long (Z 3 1), .long (Z 3 2)])) :: (wG (fun i => x (1 + (1 + i))) cI cJ (swC C b o r) S Z ++ (wW (fun i => x (1 + (11 + i))) cI cJ cZ C N S ++ (wU (fun i => x (1 + (20 + i))) cI C N ++ (wS (fun i => x (1 + (23 + i))) cI cJ C N S ++ (wQ (fun i => x (1 + (30 + i))) cI S Qk ++ [(x (1 + 34), .inl (cJ, 8, .inr (.inl (S 12))))]))))) := by
  unfold swC
  by_cases h : b / 4 = o / 4
  · rw [if_pos h]
    rfl
  · rw [if_neg h]
    rfl
theorem bz_d (a : Int32) : (if ¬ a = 0 then false else true) = decide (a = 0) := by
  by_cases h : a = 0
  · rw [if_neg (not_not_intro h), decide_eq_true h]
  · rw [if_pos h, decide_eq_false h]

theorem hV_X6_crack : yX6_crack.cls = RX6 ∧ yX6_crack.cls ≠ "java/lang/invoke/MethodHandle" ∧ yX6_crack.cls ≠ "java/lang/invoke/VarHandle" ∧ (parseMethodDescriptor yX6_crack.desc).map (fun d => d.parameters.length) = some 3 := by decide +kernel
abbrev rm_X6_crack : Room := { frames := 2, cells := 0, slots := 0, locals := 49 }
set_option maxRecDepth 100000 in
set_option maxHeartbeats 4000000 in
theorem m_X6_crack (l : Launch) (D : va_G) (cI cJ cZ : ClassId) (x : Nat → Nat) (y : Nat) (C : Cf) (N : Nat → Nat) (S : St) (Qk : Nat → Int64) (Z : St) (v q r : Int32)  (hc0 : cK3 v q r = 0) : g_Ct l D cI cJ cZ yX6_crack cX6_crack 4 (some .int) rm_X6_crack 0 0 [.ref (x 0), .int v, .int q, .int r] (wX x y cI cJ cZ C N S Qk Z) (g_eq (some (.int (swR C (nN v) (nN q)))) (wX x y cI cJ cZ (swC C (nN v) (nN q) r) N S Qk Z)) := by
  refine g_body RX6 [(0, .ref (x 0)), (1, .int v), (2, .int q), (3, .int r)] kH_X6 rfl (Nat.le_of_ble_eq_true rfl) rfl ?_
  intro p e s m args below meth c A X hr hlk hmn Q hQ
  have hk0 := cK3_0 hc0
  obtain ⟨h0a, h0b, h0c, h0d⟩ := hk0
  refine g_iload_n X 1 dX6_crack_0 rfl rfl ?_
  refine g_bipush X (v := nI 12) dX6_crack_1 (by decide +kernel) ?_
  refine g_callS X (As := [.int v, .int (nI 12)]) (rest := []) (m_X6_requireIndex l D cI cJ cZ v 12 (nI 11) (by decide +kernel) (by omega) (by assumption)) kM_X6_19 kT_yX6_requireIndex kZ_RX6 kC_yX6_requireIndex hV_X6_requireIndex rfl rfl rfl ⟨Nat.le_of_ble_eq_true rfl, Nat.le_of_ble_eq_true rfl⟩ ⟨Nat.le_of_ble_eq_true rfl, Nat.le_of_ble_eq_true rfl⟩ (Nat.le_of_ble_eq_true rfl) dX6_crack_3 rfl [] rfl (by decide +kernel) (g_kk1 (w2 := wX x y cI cJ cZ C N S Qk Z) em0 ?_)
  refine g_iload_n X 2 dX6_crack_6 rfl rfl ?_
  refine g_bipush X (v := nI 12) dX6_crack_7 (by decide +kernel) ?_
  refine g_callS X (As := [.int q, .int (nI 12)]) (rest := []) (m_X6_requireIndex l D cI cJ cZ q 12 (nI 11) (by decide +kernel) (by omega) (by assumption)) kM_X6_19 kT_yX6_requireIndex kZ_RX6 kC_yX6_requireIndex hV_X6_requireIndex rfl rfl rfl ⟨Nat.le_of_ble_eq_true rfl, Nat.le_of_ble_eq_true rfl⟩ ⟨Nat.le_of_ble_eq_true rfl, Nat.le_of_ble_eq_true rfl⟩ (Nat.le_of_ble_eq_true rfl) dX6_crack_9 rfl [] rfl (by decide +kernel) (g_kk1 (w2 := wX x y cI cJ cZ C N S Qk Z) em0 ?_)
  refine g_iload_n X 1 dX6_crack_12 rfl rfl ?_
  refine g_iload_n X 2 dX6_crack_13 rfl rfl ?_
  obtain ⟨hvn, evn⟩ := inB_k (v := v) (n := 11) (by decide) (by assumption)
  obtain ⟨hqn, eqn⟩ := inB_k (v := q) (n := 11) (by decide) (by assumption)
  refine g_st (st' := [.int (nI (nN q)), .int (nI (nN v))]) (by rw [← eqn]; rw [← evn]; first | done | rfl) ?_
  refine g_callS X (As := [.int (nI (nN v)), .int (nI (nN q))]) (rest := []) (m_X6_areNeighbours l D cI cJ cZ (nN v) (nN q) hvn hqn) kM_X6_49 kT_yX6_areNeighbours kZ_RX6 kC_yX6_areNeighbours hV_X6_areNeighbours rfl rfl rfl ⟨Nat.le_of_ble_eq_true rfl, Nat.le_of_ble_eq_true rfl⟩ ⟨Nat.le_of_ble_eq_true rfl, Nat.le_of_ble_eq_true rfl⟩ (Nat.le_of_ble_eq_true rfl) dX6_crack_14 rfl [] rfl (by decide +kernel) (g_kk1 (w2 := wX x y cI cJ cZ C N S Qk Z) em0 ?_)
  refine g_callS X (As := [.int (bI (nbr (nN v) (nN q)))]) (rest := []) (m_X6_requireArgument l D cI cJ cZ (nbr (nN v) (nN q)) (by assumption)) kM_X6_53 kT_yX6_requireArgument kZ_RX6 kC_yX6_requireArgument hV_X6_requireArgument rfl rfl rfl ⟨Nat.le_of_ble_eq_true rfl, Nat.le_of_ble_eq_true rfl⟩ ⟨Nat.le_of_ble_eq_true rfl, Nat.le_of_ble_eq_true rfl⟩ (Nat.le_of_ble_eq_true rfl) dX6_crack_17 rfl [] rfl (by decide +kernel) (g_kk1 (w2 := wX x y cI cJ cZ C N S Qk Z) em0 ?_)
  refine g_iload_n X 3 dX6_crack_20 rfl rfl ?_
  refine g_iconst X (v := nI 0) dX6_crack_21 (by decide +kernel) ?_
  refine g_bipush X (v := nI 100) dX6_crack_22 (by decide +kernel) ?_
  refine g_callS X (As := [.int r, .int (nI 0), .int (nI 100)]) (rest := []) (m_X6_requireRange l D cI cJ cZ r (nI 0) (nI 100) (by assumption)) kM_X6_24 kT_yX6_requireRange kZ_RX6 kC_yX6_requireRange hV_X6_requireRange rfl rfl rfl ⟨Nat.le_of_ble_eq_true rfl, Nat.le_of_ble_eq_true rfl⟩ ⟨Nat.le_of_ble_eq_true rfl, Nat.le_of_ble_eq_true rfl⟩ (Nat.le_of_ble_eq_true rfl) dX6_crack_24 rfl [] rfl (by decide +kernel) (g_kk1 (w2 := wX x y cI cJ cZ C N S Qk Z) em0 ?_)
  refine g_lvq (lv' := [(0, .ref (x 0)), (1, .int (nI (nN v))), (2, .int (nI (nN q))), (3, .int r)]) (by rw [← evn]; rw [← eqn]; first | done | rfl) ?_
  refine g_aload_n X 0 dX6_crack_27 rfl rfl ?_
  refine g_get X (C := RX6) (T := TX6) (N := 2) (v := .ref (x 1)) inlX6 0 rfl rfl 0 (Nat.le_of_ble_eq_true rfl) kF_X6_10 rfl dX6_crack_28 ?_
  refine g_get X (C := RX0) (T := TX0) (N := 11) (v := .ref (x 2)) inlX0 1 rfl rfl 2 (Nat.le_of_ble_eq_true rfl) kF_X6_36 rfl dX6_crack_31 ?_
  refine g_iload_n X 1 dX6_crack_34 rfl rfl ?_
  refine g_iload_n X 2 dX6_crack_35 rfl rfl ?_
  refine g_iload_n X 3 dX6_crack_36 rfl rfl ?_
  obtain ⟨C1, eC1⟩ : ∃ z : Cf, z = swC C (nN v) (nN q) r := ⟨_, rfl⟩
  refine g_callV X (As := [.int (nI (nN v)), .int (nI (nN q)), .int r]) (rest := []) (m_X1_setWidth l D cI cJ cZ (fun i => x (2 + i)) C S Z (nN v) (nN q) r hvn hqn) kM_X6_56 kI_yX1_setWidth kS_yX1_setWidth kZ_RX1 kC_yX1_setWidth hV_X1_setWidth rfl rfl rfl 0 rfl (ci := 1) rfl ⟨Nat.le_of_ble_eq_true rfl, Nat.le_of_ble_eq_true rfl⟩ ⟨Nat.le_of_ble_eq_true rfl, Nat.le_of_ble_eq_true rfl⟩ (Nat.le_of_ble_eq_true rfl) dX6_crack_37 rfl (em_I 2 10 12 0) (em_C (by decide) (Nat.le_of_ble_eq_true rfl) rfl) (em_nd (by decide)) (g_kk1 (w2 := wX x y cI cJ cZ C1 N S Qk Z) (by rw [eC1]; exact (em3 2 10 12 0 (by decide) (Nat.le_of_ble_eq_true rfl) rfl rfl (by rw [wX_sw]; rfl))) ?_)
  refine g_iret X hr hlk hQ dX6_crack_40 ?_
  show g_eq _ _ _ _
  try rw [eC1]
  exact ⟨rfl, rfl⟩
abbrev rm_X6_crackX : Room := { frames := 8, cells := 1, slots := 6, locals := 124 }
set_option maxRecDepth 100000 in
set_option maxHeartbeats 4000000 in
theorem m_X6_crackX (l : Launch) (hl0 : l.stackTraces = false) (D : va_G) (cI cJ cZ : ClassId) (B0 : Nat) (x : Nat → Nat) (y : Nat) (C : Cf) (N : Nat → Nat) (S : St) (Qk : Nat → Int64) (Z : St) (v q r : Int32)  (hc1 : ¬ cK3 v q r = 0) (hB : g_Bw B0 (wX x y cI cJ cZ C N S Qk Z)) : g_CtX l D cI cJ cZ B0 yX6_crack cX6_crack 4 (some .int) rm_X6_crackX 1 6 [.ref (x 0), .int v, .int q, .int r] (wX x y cI cJ cZ C N S Qk Z) (fun _ _ => False) (fun E w => E = eA (cK3 v q r) ∧ w = wX x y cI cJ cZ C N S Qk Z) := by
  refine g_bodyX RX6 [(0, .ref (x 0)), (1, .int v), (2, .int q), (3, .int r)] kH_X6 rfl (Nat.le_of_ble_eq_true rfl) rfl hB ?_
  intro p e s m args below meth c A X Y hT hr hlk hmn Q hQ
  refine g_iload_n X 1 dX6_crack_0 rfl rfl ?_
  refine g_bipush X (v := nI 12) dX6_crack_1 (by decide +kernel) ?_
  by_cases hok1 : inB v (nI 0) (nI 11) = true
  · --
    refine g_callS X (As := [.int v, .int (nI 12)]) (rest := []) (m_X6_requireIndex l D cI cJ cZ v 12 (nI 11) (by decide +kernel) (by omega) hok1) kM_X6_19 kT_yX6_requireIndex kZ_RX6 kC_yX6_requireIndex hV_X6_requireIndex rfl rfl rfl ⟨Nat.le_of_ble_eq_true rfl, Nat.le_of_ble_eq_true rfl⟩ ⟨Nat.le_of_ble_eq_true rfl, Nat.le_of_ble_eq_true rfl⟩ (Nat.le_of_ble_eq_true rfl) dX6_crack_3 rfl [] rfl rfl (g_kk1 (w2 := wX x y cI cJ cZ C N S Qk Z) em0 ?_)
    refine g_iload_n X 2 dX6_crack_6 rfl rfl ?_
    refine g_bipush X (v := nI 12) dX6_crack_7 (by decide +kernel) ?_
    by_cases hok2 : inB q (nI 0) (nI 11) = true
    · --
      refine g_callS X (As := [.int q, .int (nI 12)]) (rest := []) (m_X6_requireIndex l D cI cJ cZ q 12 (nI 11) (by decide +kernel) (by omega) hok2) kM_X6_19 kT_yX6_requireIndex kZ_RX6 kC_yX6_requireIndex hV_X6_requireIndex rfl rfl rfl ⟨Nat.le_of_ble_eq_true rfl, Nat.le_of_ble_eq_true rfl⟩ ⟨Nat.le_of_ble_eq_true rfl, Nat.le_of_ble_eq_true rfl⟩ (Nat.le_of_ble_eq_true rfl) dX6_crack_9 rfl [] rfl rfl (g_kk1 (w2 := wX x y cI cJ cZ C N S Qk Z) em0 ?_)
      refine g_iload_n X 1 dX6_crack_12 rfl rfl ?_
      refine g_iload_n X 2 dX6_crack_13 rfl rfl ?_
      obtain ⟨hvn, evn⟩ := inB_k (v := v) (n := 11) (by decide) (by assumption)
      obtain ⟨hqn, eqn⟩ := inB_k (v := q) (n := 11) (by decide) (by assumption)
      refine g_st (st' := [.int (nI (nN q)), .int (nI (nN v))]) (by rw [← eqn]; rw [← evn]; first | done | rfl) ?_
      refine g_callS X (As := [.int (nI (nN v)), .int (nI (nN q))]) (rest := []) (m_X6_areNeighbours l D cI cJ cZ (nN v) (nN q) hvn hqn) kM_X6_49 kT_yX6_areNeighbours kZ_RX6 kC_yX6_areNeighbours hV_X6_areNeighbours rfl rfl rfl ⟨Nat.le_of_ble_eq_true rfl, Nat.le_of_ble_eq_true rfl⟩ ⟨Nat.le_of_ble_eq_true rfl, Nat.le_of_ble_eq_true rfl⟩ (Nat.le_of_ble_eq_true rfl) dX6_crack_14 rfl [] rfl (by decide +kernel) (g_kk1 (w2 := wX x y cI cJ cZ C N S Qk Z) em0 ?_)
      by_cases hok3 : (nbr (nN v) (nN q)) = true
      · --
        refine g_callS X (As := [.int (bI (nbr (nN v) (nN q)))]) (rest := []) (m_X6_requireArgument l D cI cJ cZ (nbr (nN v) (nN q)) hok3) kM_X6_53 kT_yX6_requireArgument kZ_RX6 kC_yX6_requireArgument hV_X6_requireArgument rfl rfl rfl ⟨Nat.le_of_ble_eq_true rfl, Nat.le_of_ble_eq_true rfl⟩ ⟨Nat.le_of_ble_eq_true rfl, Nat.le_of_ble_eq_true rfl⟩ (Nat.le_of_ble_eq_true rfl) dX6_crack_17 rfl [] rfl rfl (g_kk1 (w2 := wX x y cI cJ cZ C N S Qk Z) em0 ?_)
        refine g_iload_n X 3 dX6_crack_20 rfl rfl ?_
        refine g_iconst X (v := nI 0) dX6_crack_21 (by decide +kernel) ?_
        refine g_bipush X (v := nI 100) dX6_crack_22 (by decide +kernel) ?_
        by_cases hok4 : inB r (nI 0) (nI 100) = true
        · --
          refine g_callS X (As := [.int r, .int (nI 0), .int (nI 100)]) (rest := []) (m_X6_requireRange l D cI cJ cZ r (nI 0) (nI 100) hok4) kM_X6_24 kT_yX6_requireRange kZ_RX6 kC_yX6_requireRange hV_X6_requireRange rfl rfl rfl ⟨Nat.le_of_ble_eq_true rfl, Nat.le_of_ble_eq_true rfl⟩ ⟨Nat.le_of_ble_eq_true rfl, Nat.le_of_ble_eq_true rfl⟩ (Nat.le_of_ble_eq_true rfl) dX6_crack_24 rfl [] rfl rfl (g_kk1 (w2 := wX x y cI cJ cZ C N S Qk Z) em0 ?_)
          refine absurd ?_ hc1
          (try clear evn); (try clear eqn)
          unfold cK3
          (repeat' split) <;> first | rfl | (exfalso; simp_all; done)
        · --
          refine g_callSX X Y hT hlk hQ (As := [.int r, .int (nI 0), .int (nI 100)]) (rest := []) (m_X6_requireRangeX l hl0 D cI cJ cZ B0 r (nI 0) (nI 100) (eq_false_of_ne_true hok4)) kM_X6_24 kT_yX6_requireRange kZ_RX6 kC_yX6_requireRange hV_X6_requireRange rfl rfl rfl ⟨Nat.le_of_ble_eq_true rfl, Nat.le_of_ble_eq_true rfl⟩ ⟨Nat.le_of_ble_eq_true rfl, Nat.le_of_ble_eq_true rfl⟩ (Nat.le_of_ble_eq_true rfl) dX6_crack_24 rfl em0 (Nat.le_of_ble_eq_true rfl) (Nat.le_of_ble_eq_true rfl) ?_
          refine ⟨?_, rfl⟩
          (try clear evn); (try clear eqn)
          unfold cK3
          (repeat' split) <;> first | (exfalso; simp_all; done) | rfl
      · --
        refine g_callSX X Y hT hlk hQ (As := [.int (bI (nbr (nN v) (nN q)))]) (rest := []) (m_X6_requireArgumentX l hl0 D cI cJ cZ B0 (nbr (nN v) (nN q)) (eq_false_of_ne_true hok3)) kM_X6_53 kT_yX6_requireArgument kZ_RX6 kC_yX6_requireArgument hV_X6_requireArgument rfl rfl rfl ⟨Nat.le_of_ble_eq_true rfl, Nat.le_of_ble_eq_true rfl⟩ ⟨Nat.le_of_ble_eq_true rfl, Nat.le_of_ble_eq_true rfl⟩ (Nat.le_of_ble_eq_true rfl) dX6_crack_17 rfl em0 (Nat.le_of_ble_eq_true rfl) (Nat.le_of_ble_eq_true rfl) ?_
        refine ⟨?_, rfl⟩
        (try clear evn); (try clear eqn)
        unfold cK3
        (repeat' split) <;> first | (exfalso; simp_all; done) | rfl
    · --
      refine g_callSX X Y hT hlk hQ (As := [.int q, .int (nI 12)]) (rest := []) (m_X6_requireIndexX l hl0 D cI cJ cZ B0 q 12 (nI 11) (by decide +kernel) (by omega) (eq_false_of_ne_true hok2)) kM_X6_19 kT_yX6_requireIndex kZ_RX6 kC_yX6_requireIndex hV_X6_requireIndex rfl rfl rfl ⟨Nat.le_of_ble_eq_true rfl, Nat.le_of_ble_eq_true rfl⟩ ⟨Nat.le_of_ble_eq_true rfl, Nat.le_of_ble_eq_true rfl⟩ (Nat.le_of_ble_eq_true rfl) dX6_crack_9 rfl em0 (Nat.le_of_ble_eq_true rfl) (Nat.le_of_ble_eq_true rfl) ?_
      refine ⟨?_, rfl⟩
      (try clear evn); (try clear eqn)
      unfold cK3
      (repeat' split) <;> first | (exfalso; simp_all; done) | rfl
  · --
    refine g_callSX X Y hT hlk hQ (As := [.int v, .int (nI 12)]) (rest := []) (m_X6_requireIndexX l hl0 D cI cJ cZ B0 v 12 (nI 11) (by decide +kernel) (by omega) (eq_false_of_ne_true hok1)) kM_X6_19 kT_yX6_requireIndex kZ_RX6 kC_yX6_requireIndex hV_X6_requireIndex rfl rfl rfl ⟨Nat.le_of_ble_eq_true rfl, Nat.le_of_ble_eq_true rfl⟩ ⟨Nat.le_of_ble_eq_true rfl, Nat.le_of_ble_eq_true rfl⟩ (Nat.le_of_ble_eq_true rfl) dX6_crack_3 rfl em0 (Nat.le_of_ble_eq_true rfl) (Nat.le_of_ble_eq_true rfl) ?_
    refine ⟨?_, rfl⟩
    (try clear evn); (try clear eqn)
    unfold cK3
    (repeat' split) <;> first | (exfalso; simp_all; done) | rfl
theorem hV_X6_rain : yX6_rain.cls = RX6 ∧ yX6_rain.cls ≠ "java/lang/invoke/MethodHandle" ∧ yX6_rain.cls ≠ "java/lang/invoke/VarHandle" ∧ (parseMethodDescriptor yX6_rain.desc).map (fun d => d.parameters.length) = some 1 := by decide +kernel
abbrev rm_X6_rain : Room := { frames := 2, cells := 0, slots := 0, locals := 42 }
set_option maxRecDepth 100000 in
set_option maxHeartbeats 4000000 in
theorem m_X6_rain (l : Launch) (D : va_G) (cI cJ cZ : ClassId) (x : Nat → Nat) (y : Nat) (C : Cf) (N : Nat → Nat) (S : St) (Qk : Nat → Int64) (Z : St) (v : Int32)  (hc0 : cR1 v (nI 0) (nI 500) = 0) : g_Ct l D cI cJ cZ yX6_rain cX6_rain 3 (some .int) rm_X6_rain 0 0 [.ref (x 0), .int v] (wX x y cI cJ cZ C N S Qk Z) (g_eq (some (.int (C 10 0))) (wX x y cI cJ cZ (c2 C 10 0 v) N S Qk Z)) := by
  refine g_body RX6 [(0, .ref (x 0)), (1, .int v)] kH_X6 rfl (Nat.le_of_ble_eq_true rfl) rfl ?_
  intro p e s m args below meth c A X hr hlk hmn Q hQ
  have hk0 := cR1_0 hc0
  refine g_iload_n X 1 dX6_rain_0 rfl rfl ?_
  refine g_iconst X (v := nI 0) dX6_rain_1 (by decide +kernel) ?_
  refine g_sipush X (v := nI 500) dX6_rain_2 (by decide +kernel) ?_
  refine g_callS X (As := [.int v, .int (nI 0), .int (nI 500)]) (rest := []) (m_X6_requireRange l D cI cJ cZ v (nI 0) (nI 500) (by assumption)) kM_X6_24 kT_yX6_requireRange kZ_RX6 kC_yX6_requireRange hV_X6_requireRange rfl rfl rfl ⟨Nat.le_of_ble_eq_true rfl, Nat.le_of_ble_eq_true rfl⟩ ⟨Nat.le_of_ble_eq_true rfl, Nat.le_of_ble_eq_true rfl⟩ (Nat.le_of_ble_eq_true rfl) dX6_rain_5 rfl [] rfl (by decide +kernel) (g_kk1 (w2 := wX x y cI cJ cZ C N S Qk Z) em0 ?_)
  refine g_aload_n X 0 dX6_rain_8 rfl rfl ?_
  refine g_get X (C := RX6) (T := TX6) (N := 2) (v := .ref (x 1)) inlX6 0 rfl rfl 0 (Nat.le_of_ble_eq_true rfl) kF_X6_10 rfl dX6_rain_9 ?_
  refine g_get X (C := RX0) (T := TX0) (N := 11) (v := .int (C 10 0)) inlX0 1 rfl rfl 1 (Nat.le_of_ble_eq_true rfl) kF_X6_60 rfl dX6_rain_12 ?_
  refine g_istore_n X [(2, .int (C 10 0)), (0, .ref (x 0)), (1, .int v)] dX6_rain_15 rfl (Nat.le_of_ble_eq_true rfl) rfl ?_
  refine g_aload_n X 1 dX6_rain_16 rfl rfl ?_
  refine g_get X (C := RX6) (T := TX6) (N := 2) (v := .ref (x 1)) inlX6 0 rfl rfl 0 (Nat.le_of_ble_eq_true rfl) kF_X6_10 rfl dX6_rain_17 ?_
  refine g_iload_n X 2 dX6_rain_20 rfl rfl ?_
  obtain ⟨C1, eC1⟩ : ∃ z : Cf, z = c2 C 10 0 v := ⟨_, rfl⟩
  refine g_put X (C := RX0) (T := TX0) (N := 11) (ws' := wX x y cI cJ cZ C1 N S Qk Z) inlX0 tyX0 tyX0_ok nmX0 1 rfl rfl 1 (Nat.le_of_ble_eq_true rfl) kF_X6_60 rfl rfl rfl (Nat.le_of_ble_eq_true rfl) dX6_rain_21 (by rw [eC1]; first | done | (rfl)) ?_
  refine g_iload_n X 0 dX6_rain_24 rfl rfl ?_
  refine g_iret X hr hlk hQ dX6_rain_25 ?_
  show g_eq _ _ _ _
  try rw [eC1]
  exact ⟨rfl, rfl⟩
abbrev rm_X6_rainX : Room := { frames := 8, cells := 1, slots := 6, locals := 124 }
set_option maxRecDepth 100000 in
set_option maxHeartbeats 4000000 in
theorem m_X6_rainX (l : Launch) (hl0 : l.stackTraces = false) (D : va_G) (cI cJ cZ : ClassId) (B0 : Nat) (x : Nat → Nat) (y : Nat) (C : Cf) (N : Nat → Nat) (S : St) (Qk : Nat → Int64) (Z : St) (v : Int32)  (hc1 : ¬ cR1 v (nI 0) (nI 500) = 0) (hB : g_Bw B0 (wX x y cI cJ cZ C N S Qk Z)) : g_CtX l D cI cJ cZ B0 yX6_rain cX6_rain 3 (some .int) rm_X6_rainX 1 6 [.ref (x 0), .int v] (wX x y cI cJ cZ C N S Qk Z) (fun _ _ => False) (fun E w => E = eC (cR1 v (nI 0) (nI 500)) ∧ w = wX x y cI cJ cZ C N S Qk Z) := by
  refine g_bodyX RX6 [(0, .ref (x 0)), (1, .int v)] kH_X6 rfl (Nat.le_of_ble_eq_true rfl) rfl hB ?_
  intro p e s m args below meth c A X Y hT hr hlk hmn Q hQ
  refine g_iload_n X 1 dX6_rain_0 rfl rfl ?_
  refine g_iconst X (v := nI 0) dX6_rain_1 (by decide +kernel) ?_
  refine g_sipush X (v := nI 500) dX6_rain_2 (by decide +kernel) ?_
  by_cases hok1 : inB v (nI 0) (nI 500) = true
  · --
    refine g_callS X (As := [.int v, .int (nI 0), .int (nI 500)]) (rest := []) (m_X6_requireRange l D cI cJ cZ v (nI 0) (nI 500) hok1) kM_X6_24 kT_yX6_requireRange kZ_RX6 kC_yX6_requireRange hV_X6_requireRange rfl rfl rfl ⟨Nat.le_of_ble_eq_true rfl, Nat.le_of_ble_eq_true rfl⟩ ⟨Nat.le_of_ble_eq_true rfl, Nat.le_of_ble_eq_true rfl⟩ (Nat.le_of_ble_eq_true rfl) dX6_rain_5 rfl [] rfl rfl (g_kk1 (w2 := wX x y cI cJ cZ C N S Qk Z) em0 ?_)
    refine absurd ?_ hc1
    (try clear evn); (try clear eqn)
    unfold cR1
    (repeat' split) <;> first | rfl | (exfalso; simp_all; done)
  · --
    refine g_callSX X Y hT hlk hQ (As := [.int v, .int (nI 0), .int (nI 500)]) (rest := []) (m_X6_requireRangeX l hl0 D cI cJ cZ B0 v (nI 0) (nI 500) (eq_false_of_ne_true hok1)) kM_X6_24 kT_yX6_requireRange kZ_RX6 kC_yX6_requireRange hV_X6_requireRange rfl rfl rfl ⟨Nat.le_of_ble_eq_true rfl, Nat.le_of_ble_eq_true rfl⟩ ⟨Nat.le_of_ble_eq_true rfl, Nat.le_of_ble_eq_true rfl⟩ (Nat.le_of_ble_eq_true rfl) dX6_rain_5 rfl em0 (Nat.le_of_ble_eq_true rfl) (Nat.le_of_ble_eq_true rfl) ?_
    refine ⟨?_, rfl⟩
    (try clear evn); (try clear eqn)
    unfold cR1
    (repeat' split) <;> first | (exfalso; simp_all; done) | rfl
theorem hV_X6_well : yX6_well.cls = RX6 ∧ yX6_well.cls ≠ "java/lang/invoke/MethodHandle" ∧ yX6_well.cls ≠ "java/lang/invoke/VarHandle" ∧ (parseMethodDescriptor yX6_well.desc).map (fun d => d.parameters.length) = some 2 := by decide +kernel
abbrev rm_X6_well : Room := { frames := 1, cells := 0, slots := 0, locals := 23 }
set_option maxRecDepth 100000 in
set_option maxHeartbeats 4000000 in
theorem m_X6_well (l : Launch) (D : va_G) (cI cJ cZ : ClassId) (x : Nat → Nat) (y : Nat) (C : Cf) (N : Nat → Nat) (S : St) (Qk : Nat → Int64) (Z : St) (v : Int32) (r : Bool) (hC : Cok C N) (hc0 : cL1 (N 0) v = 0) : g_Ct l D cI cJ cZ yX6_well cX6_well 3 (some .int) rm_X6_well 0 0 [.ref (x 0), .int v, .int (bI (r))] (wX x y cI cJ cZ C N S Qk Z) (g_eq (some (.int (nI (N 0)))) (wX x y cI cJ cZ (c2 (c2 C 2 (N 0) v) 3 (N 0) (bI r)) (n2 N 0 (N 0 + 1)) (u2 S 8 (N 0) (-1)) Qk Z)) := by
  refine g_body RX6 [(0, .ref (x 0)), (1, .int v), (2, .int (bI (r)))] kH_X6 rfl (Nat.le_of_ble_eq_true rfl) rfl ?_
  intro p e s m args below meth c A X hr hlk hmn Q hQ
  have hN0 := hC.n0
  have hN1 := hC.n1
  have hN2 := hC.n2
  have hk0 := cL1_0 hc0
  obtain ⟨h0a, h0b⟩ := hk0
  refine g_iload_n X 1 dX6_well_0 rfl rfl ?_
  refine g_bipush X (v := nI 12) dX6_well_1 (by decide +kernel) ?_
  refine g_callS X (As := [.int v, .int (nI 12)]) (rest := []) (m_X6_requireIndex l D cI cJ cZ v 12 (nI 11) (by decide +kernel) (by omega) (by assumption)) kM_X6_19 kT_yX6_requireIndex kZ_RX6 kC_yX6_requireIndex hV_X6_requireIndex rfl rfl rfl ⟨Nat.le_of_ble_eq_true rfl, Nat.le_of_ble_eq_true rfl⟩ ⟨Nat.le_of_ble_eq_true rfl, Nat.le_of_ble_eq_true rfl⟩ (Nat.le_of_ble_eq_true rfl) dX6_well_3 rfl [] rfl (by decide +kernel) (g_kk1 (w2 := wX x y cI cJ cZ C N S Qk Z) em0 ?_)
  refine g_aload_n X 0 dX6_well_6 rfl rfl ?_
  refine g_get X (C := RX6) (T := TX6) (N := 2) (v := .ref (x 1)) inlX6 0 rfl rfl 0 (Nat.le_of_ble_eq_true rfl) kF_X6_10 rfl dX6_well_7 ?_
  refine g_get X (C := RX0) (T := TX0) (N := 11) (v := .ref (x 12)) inlX0 1 rfl rfl 3 (Nat.le_of_ble_eq_true rfl) kF_X6_63 rfl dX6_well_10 ?_
  refine g_get X (C := RX5) (T := TX5) (N := 9) (v := .int (nI (N 0))) inlX5 12 rfl rfl 0 (Nat.le_of_ble_eq_true rfl) kF_X6_67 rfl dX6_well_13 ?_
  refine g_bipush X (v := nI 10) dX6_well_16 (by decide +kernel) ?_
  have J3 : ∀ (v2 : Bool), v2 = (if 10 ≤ N 0 then false else true) → g_G p l e rm_X6_well s m args below meth c D A 3 0 0 Q (wX x y cI cJ cZ C N S Qk Z) [(0, .ref (x 0)), (1, .int v), (2, .int (bI (r)))] 26 [.int (bI v2)] := by
    intro v2 ev2
    replace ev2 := ev2.trans (show _ = decide (¬ N 0 = 10) from sz_ne hC.n0)
    refine g_callS X (As := [.int (bI v2)]) (rest := []) (m_X6_requireState l D cI cJ cZ v2 (by rw [ev2]; exact decide_eq_true h0b)) kM_X6_32 kT_yX6_requireState kZ_RX6 kC_yX6_requireState hV_X6_requireState rfl rfl rfl ⟨Nat.le_of_ble_eq_true rfl, Nat.le_of_ble_eq_true rfl⟩ ⟨Nat.le_of_ble_eq_true rfl, Nat.le_of_ble_eq_true rfl⟩ (Nat.le_of_ble_eq_true rfl) dX6_well_26 rfl [] rfl (by decide +kernel) (g_kk1 (w2 := wX x y cI cJ cZ C N S Qk Z) em0 ?_)
    obtain ⟨hvn, evn⟩ := inB_k (v := v) (n := 11) (by decide) (by assumption)
    refine g_lvq (lv' := [(0, .ref (x 0)), (1, .int (nI (nN v))), (2, .int (bI (r)))]) (by rw [← evn]; first | done | rfl) ?_
    refine g_aload_n X 0 dX6_well_29 rfl rfl ?_
    refine g_get X (C := RX6) (T := TX6) (N := 2) (v := .ref (x 1)) inlX6 0 rfl rfl 0 (Nat.le_of_ble_eq_true rfl) kF_X6_10 rfl dX6_well_30 ?_
    refine g_get X (C := RX0) (T := TX0) (N := 11) (v := .ref (x 12)) inlX0 1 rfl rfl 3 (Nat.le_of_ble_eq_true rfl) kF_X6_63 rfl dX6_well_33 ?_
    refine g_iload_n X 1 dX6_well_36 rfl rfl ?_
    refine g_iload_n X 2 dX6_well_37 rfl rfl ?_
    obtain ⟨C4, eC4⟩ : ∃ z : Cf, z = c2 (c2 C 2 (N 0) (nI (nN v))) 3 (N 0) (bI (r)) := ⟨_, rfl⟩
    obtain ⟨S5, eS5⟩ : ∃ z : St, z = u2 S 8 (N 0) (-1) := ⟨_, rfl⟩
    obtain ⟨N6, eN6⟩ : ∃ z : Nat → Nat, z = n2 N 0 (N 0 + 1) := ⟨_, rfl⟩
    refine g_callV X (As := [.int (nI (nN v)), .int (bI (r))]) (rest := []) (m_X5_drill l D cI cJ cZ (fun i => x (12 + i)) C N S (nN v) (r) (by omega) hvn) kM_X6_72 kI_yX5_drill kS_yX5_drill kZ_RX5 kC_yX5_drill hV_X5_drill rfl rfl rfl 0 rfl (ci := 5) rfl ⟨Nat.le_of_ble_eq_true rfl, Nat.le_of_ble_eq_true rfl⟩ ⟨Nat.le_of_ble_eq_true rfl, Nat.le_of_ble_eq_true rfl⟩ (Nat.le_of_ble_eq_true rfl) dX6_well_38 rfl (em_I 12 9 21 0) (em_C (by decide) (Nat.le_of_ble_eq_true rfl) rfl) (em_nd (by decide)) (g_kk1 (w2 := wX x y cI cJ cZ C4 N6 S5 Qk Z) (by rw [eN6]; rw [eS5]; rw [eC4]; exact (em3 12 9 21 0 (by decide) (Nat.le_of_ble_eq_true rfl) rfl rfl rfl)) ?_)
    refine g_iret X hr hlk hQ dX6_well_41 ?_
    show g_eq _ _ _ _
    try rw [eN6]
    try rw [eS5]
    try rw [eC4]
    try rw [ev2]
    rw [← evn]
    exact ⟨rfl, rfl⟩
  refine g_icN_ge X (a := N 0) (b := 10) (tgt := 25) (by omega) (by omega) dX6_well_18 (by decide) (fun h1 => ?_) (fun h1 => ?_)
  · --
    refine g_iconst X (v := nI 0) dX6_well_25 (by decide +kernel) ?_
    exact J3 _ (by rw [if_pos (c := 10 ≤ N 0) h1])
  · --
    refine g_iconst X (v := nI 1) dX6_well_21 (by decide +kernel) ?_
    refine g_goto X (tgt := 26) dX6_well_22 (by decide) ?_
    exact J3 _ (by rw [if_neg (c := 10 ≤ N 0) h1])
abbrev rm_X6_wellX : Room := { frames := 7, cells := 1, slots := 6, locals := 103 }
set_option maxRecDepth 100000 in
set_option maxHeartbeats 4000000 in
theorem m_X6_wellX (l : Launch) (hl0 : l.stackTraces = false) (D : va_G) (cI cJ cZ : ClassId) (B0 : Nat) (x : Nat → Nat) (y : Nat) (C : Cf) (N : Nat → Nat) (S : St) (Qk : Nat → Int64) (Z : St) (v : Int32) (r : Bool) (hC : Cok C N) (hc1 : ¬ cL1 (N 0) v = 0) (hB : g_Bw B0 (wX x y cI cJ cZ C N S Qk Z)) : g_CtX l D cI cJ cZ B0 yX6_well cX6_well 3 (some .int) rm_X6_wellX 1 6 [.ref (x 0), .int v, .int (bI (r))] (wX x y cI cJ cZ C N S Qk Z) (fun _ _ => False) (fun E w => E = eB (cL1 (N 0) v) ∧ w = wX x y cI cJ cZ C N S Qk Z) := by
  refine g_bodyX RX6 [(0, .ref (x 0)), (1, .int v), (2, .int (bI (r)))] kH_X6 rfl (Nat.le_of_ble_eq_true rfl) rfl hB ?_
  intro p e s m args below meth c A X Y hT hr hlk hmn Q hQ
  have hN0 := hC.n0
  have hN1 := hC.n1
  have hN2 := hC.n2
  refine g_iload_n X 1 dX6_well_0 rfl rfl ?_
  refine g_bipush X (v := nI 12) dX6_well_1 (by decide +kernel) ?_
  by_cases hok1 : inB v (nI 0) (nI 11) = true
  · --
    refine g_callS X (As := [.int v, .int (nI 12)]) (rest := []) (m_X6_requireIndex l D cI cJ cZ v 12 (nI 11) (by decide +kernel) (by omega) hok1) kM_X6_19 kT_yX6_requireIndex kZ_RX6 kC_yX6_requireIndex hV_X6_requireIndex rfl rfl rfl ⟨Nat.le_of_ble_eq_true rfl, Nat.le_of_ble_eq_true rfl⟩ ⟨Nat.le_of_ble_eq_true rfl, Nat.le_of_ble_eq_true rfl⟩ (Nat.le_of_ble_eq_true rfl) dX6_well_3 rfl [] rfl rfl (g_kk1 (w2 := wX x y cI cJ cZ C N S Qk Z) em0 ?_)
    refine g_aload_n X 0 dX6_well_6 rfl rfl ?_
    refine g_get X (C := RX6) (T := TX6) (N := 2) (v := .ref (x 1)) inlX6 0 rfl rfl 0 (Nat.le_of_ble_eq_true rfl) kF_X6_10 rfl dX6_well_7 ?_
    refine g_get X (C := RX0) (T := TX0) (N := 11) (v := .ref (x 12)) inlX0 1 rfl rfl 3 (Nat.le_of_ble_eq_true rfl) kF_X6_63 rfl dX6_well_10 ?_
    refine g_get X (C := RX5) (T := TX5) (N := 9) (v := .int (nI (N 0))) inlX5 12 rfl rfl 0 (Nat.le_of_ble_eq_true rfl) kF_X6_67 rfl dX6_well_13 ?_
    refine g_bipush X (v := nI 10) dX6_well_16 (by decide +kernel) ?_
    have J4 : ∀ (v3 : Bool), v3 = (if 10 ≤ N 0 then false else true) → g_G p l e rm_X6_wellX s m args below meth c D A 3 0 0 Q (wX x y cI cJ cZ C N S Qk Z) [(0, .ref (x 0)), (1, .int v), (2, .int (bI (r)))] 26 [.int (bI v3)] := by
      intro v3 ev3
      replace ev3 := ev3.trans (show _ = decide (¬ N 0 = 10) from sz_ne hC.n0)
      by_cases hok5 : v3 = true
      · --
        refine g_callS X (As := [.int (bI v3)]) (rest := []) (m_X6_requireState l D cI cJ cZ v3 hok5) kM_X6_32 kT_yX6_requireState kZ_RX6 kC_yX6_requireState hV_X6_requireState rfl rfl rfl ⟨Nat.le_of_ble_eq_true rfl, Nat.le_of_ble_eq_true rfl⟩ ⟨Nat.le_of_ble_eq_true rfl, Nat.le_of_ble_eq_true rfl⟩ (Nat.le_of_ble_eq_true rfl) dX6_well_26 rfl [] rfl rfl (g_kk1 (w2 := wX x y cI cJ cZ C N S Qk Z) em0 ?_)
        rw [ev3] at *
        refine absurd ?_ hc1
        (try clear evn); (try clear eqn)
        unfold cL1
        (repeat' split) <;> first | rfl | (exfalso; simp_all; done)
      · --
        refine g_callSX X Y hT hlk hQ (As := [.int (bI v3)]) (rest := []) (m_X6_requireStateX l hl0 D cI cJ cZ B0 v3 (eq_false_of_ne_true hok5)) kM_X6_32 kT_yX6_requireState kZ_RX6 kC_yX6_requireState hV_X6_requireState rfl rfl rfl ⟨Nat.le_of_ble_eq_true rfl, Nat.le_of_ble_eq_true rfl⟩ ⟨Nat.le_of_ble_eq_true rfl, Nat.le_of_ble_eq_true rfl⟩ (Nat.le_of_ble_eq_true rfl) dX6_well_26 rfl em0 (Nat.le_of_ble_eq_true rfl) (Nat.le_of_ble_eq_true rfl) ?_
        rw [ev3] at *
        refine ⟨?_, rfl⟩
        (try clear evn); (try clear eqn)
        unfold cL1
        (repeat' split) <;> first | (exfalso; simp_all; done) | rfl
    refine g_icN_ge X (a := N 0) (b := 10) (tgt := 25) (by omega) (by omega) dX6_well_18 (by decide) (fun h2 => ?_) (fun h2 => ?_)
    · --
      refine g_iconst X (v := nI 0) dX6_well_25 (by decide +kernel) ?_
      exact J4 _ (by rw [if_pos (c := 10 ≤ N 0) h2])
    · --
      refine g_iconst X (v := nI 1) dX6_well_21 (by decide +kernel) ?_
      refine g_goto X (tgt := 26) dX6_well_22 (by decide) ?_
      exact J4 _ (by rw [if_neg (c := 10 ≤ N 0) h2])
  · --
    refine g_callSX X Y hT hlk hQ (As := [.int v, .int (nI 12)]) (rest := []) (m_X6_requireIndexX l hl0 D cI cJ cZ B0 v 12 (nI 11) (by decide +kernel) (by omega) (eq_false_of_ne_true hok1)) kM_X6_19 kT_yX6_requireIndex kZ_RX6 kC_yX6_requireIndex hV_X6_requireIndex rfl rfl rfl ⟨Nat.le_of_ble_eq_true rfl, Nat.le_of_ble_eq_true rfl⟩ ⟨Nat.le_of_ble_eq_true rfl, Nat.le_of_ble_eq_true rfl⟩ (Nat.le_of_ble_eq_true rfl) dX6_well_3 rfl em0 (Nat.le_of_ble_eq_true rfl) (Nat.le_of_ble_eq_true rfl) ?_
    refine ⟨?_, rfl⟩
    (try clear evn); (try clear eqn)
    unfold cL1
    (repeat' split) <;> first | (exfalso; simp_all; done) | rfl
