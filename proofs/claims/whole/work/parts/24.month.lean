/-- a month whole -/
def m1S (C : Cf) (N : Nat → Nat) (S : St) : St := itr (shW C N) (u2 S 13 0 (S 13 0 + 1)) (N 0)
def m2S (C : Cf) (N : Nat → Nat) (S : St) : St := itr (dwS C N) (m1S C N S) (N 0)
def mBr (C : Cf) (N : Nat → Nat) (S : St) : Int64 := brn C N (m1S C N S) (N 0)
def mBh (C : Cf) (N : Nat → Nat) (S : St) : Int64 := brh C N (m1S C N S) (N 0)
def mSel (C : Cf) (N : Nat → Nat) (S : St) : Int64 × Int64 := selP C (mBr C N S) (mBh C N S) (m2S C N S 12 5) (N 1)
def m3S (C : Cf) (N : Nat → Nat) (S : St) : St := u2 (m2S C N S) 12 5 (mSel C N S).2
def m4S (C : Cf) (N : Nat → Nat) (S : St) : St := gbS C N (m3S C N S) (mBr C N S) (mSel C N S).1
def m5S (C : Cf) (N : Nat → Nat) (S : St) : St := itr shS (m4S C N S) 12
def monQ (C : Cf) (N : Nat → Nat) (S : St) (Qk : Nat → Int64) : Nat → Int64 := shQ (m4S C N S) Qk 12
def m6S (C : Cf) (N : Nat → Nat) (S : St) : St := crk C (m5S C N S)
def m7S (C : Cf) (N : Nat → Nat) (S : St) : St := itr (raS C) (m6S C N S) 12
def monS (C : Cf) (N : Nat → Nat) (S : St) : St := itr (feS C) (m7S C N S) (N 2)
def monZ (C : Cf) (N : Nat → Nat) (S Z : St) : St := itr (ahd (m5S C N S)) (u2 (u2 (u2 Z 3 0 (mBr C N S)) 3 1 (mBh C N S)) 3 2 (mSel C N S).1) 12
theorem m1_ok (C : Cf) (N : Nat → Nat) (S : St) (k : Int) (hW : Wk k S) (hE : Wel N S) (hm : (S 13 0).toInt ≤ 900) : Wk k (m1S C N S) ∧ Wel N (m1S C N S) := sorry
theorem m4_ok (C : Cf) (N : Nat → Nat) (S : St) (k : Int) (hC : Cok C N) (hW : Wk k S) (h0 : 0 ≤ k) (hk : k + 200000 ≤ 1099511627776) (hE : Wel N S) (hm : (S 13 0).toInt ≤ 900) : Wk (k + 100000) (m4S C N S) := sorry
theorem m4_q (C : Cf) (N : Nat → Nat) (S : St) : m4S C N S 14 0 = S 14 0 := sorry
theorem m5_0 (S : St) : ∀ n, itr shS S n 0 = S 0
  | 0 => rfl
  | n + 1 => by
    show shS n (itr shS S n) 0 = S 0
    unfold shS
    rw [u2_c _ _ _ (by decide)]
    split
    · exact m5_0 S n
    · exact m5_0 S n
theorem crk_ok (C : Cf) (S : St) (k : Int) (hW : Wk k S) : Wk k (crk C S) := sorry
theorem Wk.mono {k k2 : Int} {S : St} (h : Wk k S) (hk : k ≤ k2) : Wk k2 S := fun b hb => ⟨(h b hb).1, Int.le_trans (h b hb).2 hk⟩
theorem Wk.row {k : Int} {S T : St} (h : Wk k S) (e : T 0 = S 0) : Wk k T := fun b hb => by rw [e]; exact h b hb

theorem hV_X0_passMonth : yX0_passMonth.cls = RX0 ∧ yX0_passMonth.cls ≠ "java/lang/invoke/MethodHandle" ∧ yX0_passMonth.cls ≠ "java/lang/invoke/VarHandle" ∧ (parseMethodDescriptor yX0_passMonth.desc).map (fun d => d.parameters.length) = some 0 := by decide +kernel
abbrev rm_X0_passMonth : Room := { frames := 5, cells := 0, slots := 0, locals := 118 }
set_option maxRecDepth 100000 in
set_option maxHeartbeats 4000000 in
theorem m_X0_passMonth (l : Launch) (D : va_G) (cI cJ cZ : ClassId) (f : Nat → Nat) (C : Cf) (N : Nat → Nat) (S : St) (Qk : Nat → Int64) (Z : St) (k : Int) (hC : Cok C N) (hR : Rok C) (hW : Wk k S) (h0 : 0 ≤ k) (hk : k + 200000 ≤ 1099511627776) (hE : Wel N S) (hm : (S 13 0).toInt ≤ 900) (hq : S 14 0 = lN (qN S) ∧ qN S ≤ 800000) : g_Ct l D cI cJ cZ yX0_passMonth cX0_passMonth 1 none rm_X0_passMonth 0 0 [.ref (f 0)] (wF f cI cJ cZ C N S Qk Z) (g_eq none (wF f cI cJ cZ C N (monS C N S) (monQ C N S Qk) (monZ C N S Z))) := by
  refine g_body RX0 [(0, .ref (f 0))] kH_X0 rfl (Nat.le_of_ble_eq_true rfl) rfl ?_
  intro p e s m args below meth c A X hr hlk hmn Q hQ
  have hN0 := hC.n0
  have hN1 := hC.n1
  have hN2 := hC.n2
  have h1 := m1_ok C N S k hW hE hm
  have h4 := m4_ok C N S k hC hW h0 hk hE hm
  have hq4 : m4S C N S 14 0 = lN (qN (m4S C N S)) ∧ qN (m4S C N S) ≤ 900000 := by unfold qN; rw [m4_q]; exact ⟨hq.1, Nat.le_trans hq.2 (by decide)⟩
  have h5 : Wk (k + 100000) (m5S C N S) := h4.row (m5_0 _ 12)
  have h6 := crk_ok C _ _ h5
  have h7 := (ra_ok C (m6S C N S) (k + 100000) hR h6 (by omega) (by omega) 12 (by omega)).1
  refine g_aload_n X 0 dX0_passMonth_0 rfl rfl ?_
  refine g_dup X dX0_passMonth_1 rfl ?_
  refine g_get X (C := RX0) (T := TX0) (N := 11) (v := .int ((S 13 0).toInt32)) inlX0 0 rfl rfl 0 (Nat.le_of_ble_eq_true rfl) kF_X0_9 rfl dX0_passMonth_2 ?_
  refine g_iconst X (v := nI 1) dX0_passMonth_5 (by decide +kernel) ?_
  refine g_iadd X (v := (S 13 0 + 1).toInt32) dX0_passMonth_6 (by rw [Int64.toInt32_add]; rfl) ?_
  obtain ⟨S1, eS1⟩ : ∃ z : St, z = u2 S 13 0 (S 13 0 + 1) := ⟨_, rfl⟩
  refine g_put X (C := RX0) (T := TX0) (N := 11) (ws' := wF f cI cJ cZ C N S1 Qk Z) inlX0 tyX0 tyX0_ok nmX0 0 rfl rfl 0 (Nat.le_of_ble_eq_true rfl) kF_X0_9 rfl rfl rfl (Nat.le_of_ble_eq_true rfl) dX0_passMonth_7 (by rw [eS1]; first | done | (rfl)) ?_
  refine g_aload_n X 0 dX0_passMonth_10 rfl rfl ?_
  obtain ⟨S2, eS2⟩ : ∃ z : St, z = itr (shW C N) S1 (N 0) := ⟨_, rfl⟩
  refine g_callV X (As := []) (rest := []) (m_X0_shutWells l D cI cJ cZ f C N S1 Qk Z  hC) kM_X0_83 kI_yX0_shutWells kS_yX0_shutWells kZ_RX0 kC_yX0_shutWells hV_X0_shutWells rfl rfl rfl 0 rfl (ci := 0) rfl ⟨Nat.le_of_ble_eq_true rfl, Nat.le_of_ble_eq_true rfl⟩ ⟨Nat.le_of_ble_eq_true rfl, Nat.le_of_ble_eq_true rfl⟩ (Nat.le_of_ble_eq_true rfl) dX0_passMonth_11 rfl [0, 1, 2, 3, 4, 5, 6, 7, 8, 9, 10, 11, 12, 13, 14, 15, 16, 17, 18, 19, 20, 21, 22, 23, 24, 25, 26, 27, 28, 29, 30, 31, 32, 33, 34] rfl rfl (g_kk1 (w2 := wF f cI cJ cZ C N S2 Qk Z) (by rw [eS2]; exact ⟨[0, 1, 2, 3, 4, 5, 6, 7, 8, 9, 10, 11, 12, 13, 14, 15, 16, 17, 18, 19, 20, 21, 22, 23, 24, 25, 26, 27, 28, 29, 30, 31, 32, 33, 34], [], [0, 1, 2, 3, 4, 5, 6, 7, 8, 9, 10, 11, 12, 13, 14, 15, 16, 17, 18, 19, 20, 21, 22, 23, 24, 25, 26, 27, 28, 29, 30, 31, 32, 33, 34], [], rfl, rfl, rfl, rfl, by decide, rfl, rfl⟩) ?_)
  refine g_aload_n X 0 dX0_passMonth_14 rfl rfl ?_
  obtain ⟨S3, eS3⟩ : ∃ z : St, z = itr (dwS C N) S2 (N 0) := ⟨_, rfl⟩
  obtain ⟨X4, eX4⟩ : ∃ z : St, z = u2 (u2 Z 3 0 (brn C N S2 (N 0))) 3 1 (brh C N S2 (N 0)) := ⟨_, rfl⟩
  refine g_callV X (As := []) (rest := []) (m_X0_drawFromWells l D cI cJ cZ f C N S2 Qk Z k hC (by (try rw [eS2]); (try rw [eS1]); exact h1.1) (by omega) (by (try rw [eS2]); (try rw [eS1]); exact h1.2)) kM_X0_86 kI_yX0_drawFromWells kS_yX0_drawFromWells kZ_RX0 kC_yX0_drawFromWells hV_X0_drawFromWells rfl rfl rfl 0 rfl (ci := 0) rfl ⟨Nat.le_of_ble_eq_true rfl, Nat.le_of_ble_eq_true rfl⟩ ⟨Nat.le_of_ble_eq_true rfl, Nat.le_of_ble_eq_true rfl⟩ (Nat.le_of_ble_eq_true rfl) dX0_passMonth_15 rfl [0, 1, 2, 3, 4, 5, 6, 7, 8, 9, 10, 11, 12, 13, 14, 15, 16, 17, 18, 19, 20, 21, 22, 23, 24, 25, 26, 27, 28, 29, 30, 31, 32, 33, 34] rfl rfl (g_kk1 (w2 := wF f cI cJ cZ C N S3 Qk X4) (by rw [eX4]; rw [eS3]; exact ⟨[0, 1, 2, 3, 4, 5, 6, 7, 8, 9, 10, 11, 12, 13, 14, 15, 16, 17, 18, 19, 20, 21, 22, 23, 24, 25, 26, 27, 28, 29, 30, 31, 32, 33, 34], [], [0, 1, 2, 3, 4, 5, 6, 7, 8, 9, 10, 11, 12, 13, 14, 15, 16, 17, 18, 19, 20, 21, 22, 23, 24, 25, 26, 27, 28, 29, 30, 31, 32, 33, 34], [], rfl, rfl, rfl, rfl, by decide, rfl, rfl⟩) ?_)
  refine g_aload_n X 0 dX0_passMonth_18 rfl rfl ?_
  obtain ⟨S5, eS5⟩ : ∃ z : St, z = u2 S3 12 5 (selP C (X4 3 0) (X4 3 1) (S3 12 5) (N 1)).2 := ⟨_, rfl⟩
  obtain ⟨X6, eX6⟩ : ∃ z : St, z = u2 X4 3 2 (selP C (X4 3 0) (X4 3 1) (S3 12 5) (N 1)).1 := ⟨_, rfl⟩
  refine g_callV X (As := []) (rest := []) (m_X0_sellHeat l D cI cJ cZ f C N S3 Qk X4  hC) kM_X0_89 kI_yX0_sellHeat kS_yX0_sellHeat kZ_RX0 kC_yX0_sellHeat hV_X0_sellHeat rfl rfl rfl 0 rfl (ci := 0) rfl ⟨Nat.le_of_ble_eq_true rfl, Nat.le_of_ble_eq_true rfl⟩ ⟨Nat.le_of_ble_eq_true rfl, Nat.le_of_ble_eq_true rfl⟩ (Nat.le_of_ble_eq_true rfl) dX0_passMonth_19 rfl [0, 1, 2, 3, 4, 5, 6, 7, 8, 9, 10, 11, 12, 13, 14, 15, 16, 17, 18, 19, 20, 21, 22, 23, 24, 25, 26, 27, 28, 29, 30, 31, 32, 33, 34] rfl rfl (g_kk1 (w2 := wF f cI cJ cZ C N S5 Qk X6) (by rw [eX6]; rw [eS5]; exact ⟨[0, 1, 2, 3, 4, 5, 6, 7, 8, 9, 10, 11, 12, 13, 14, 15, 16, 17, 18, 19, 20, 21, 22, 23, 24, 25, 26, 27, 28, 29, 30, 31, 32, 33, 34], [], [0, 1, 2, 3, 4, 5, 6, 7, 8, 9, 10, 11, 12, 13, 14, 15, 16, 17, 18, 19, 20, 21, 22, 23, 24, 25, 26, 27, 28, 29, 30, 31, 32, 33, 34], [], rfl, rfl, rfl, rfl, by decide, rfl, rfl⟩) ?_)
  refine g_aload_n X 0 dX0_passMonth_22 rfl rfl ?_
  obtain ⟨S7, eS7⟩ : ∃ z : St, z = gbS C N S5 (X6 3 0) (X6 3 2) := ⟨_, rfl⟩
  refine g_callV X (As := []) (rest := []) (m_X0_giveBack l D cI cJ cZ f C N S5 Qk X6  hC) kM_X0_92 kI_yX0_giveBack kS_yX0_giveBack kZ_RX0 kC_yX0_giveBack hV_X0_giveBack rfl rfl rfl 0 rfl (ci := 0) rfl ⟨Nat.le_of_ble_eq_true rfl, Nat.le_of_ble_eq_true rfl⟩ ⟨Nat.le_of_ble_eq_true rfl, Nat.le_of_ble_eq_true rfl⟩ (Nat.le_of_ble_eq_true rfl) dX0_passMonth_23 rfl [0, 1, 2, 3, 4, 5, 6, 7, 8, 9, 10, 11, 12, 13, 14, 15, 16, 17, 18, 19, 20, 21, 22, 23, 24, 25, 26, 27, 28, 29, 30, 31, 32, 33, 34] rfl rfl (g_kk1 (w2 := wF f cI cJ cZ C N S7 Qk X6) (by rw [eS7]; exact ⟨[0, 1, 2, 3, 4, 5, 6, 7, 8, 9, 10, 11, 12, 13, 14, 15, 16, 17, 18, 19, 20, 21, 22, 23, 24, 25, 26, 27, 28, 29, 30, 31, 32, 33, 34], [], [0, 1, 2, 3, 4, 5, 6, 7, 8, 9, 10, 11, 12, 13, 14, 15, 16, 17, 18, 19, 20, 21, 22, 23, 24, 25, 26, 27, 28, 29, 30, 31, 32, 33, 34], [], rfl, rfl, rfl, rfl, by decide, rfl, rfl⟩) ?_)
  refine g_aload_n X 0 dX0_passMonth_26 rfl rfl ?_
  obtain ⟨S8, eS8⟩ : ∃ z : St, z = itr shS S7 12 := ⟨_, rfl⟩
  obtain ⟨Qk9, eQk9⟩ : ∃ z : Nat → Int64, z = shQ S7 Qk 12 := ⟨_, rfl⟩
  refine g_callV X (As := []) (rest := []) (m_X0_shake l D cI cJ cZ f C N S7 Qk X6  (by (try rw [eS7]); (try rw [eX6]); (try rw [eS5]); (try rw [eX4]); (try rw [eS3]); (try rw [eS2]); (try rw [eS1]); exact hq4)) kM_X0_95 kI_yX0_shake kS_yX0_shake kZ_RX0 kC_yX0_shake hV_X0_shake rfl rfl rfl 0 rfl (ci := 0) rfl ⟨Nat.le_of_ble_eq_true rfl, Nat.le_of_ble_eq_true rfl⟩ ⟨Nat.le_of_ble_eq_true rfl, Nat.le_of_ble_eq_true rfl⟩ (Nat.le_of_ble_eq_true rfl) dX0_passMonth_27 rfl [0, 1, 2, 3, 4, 5, 6, 7, 8, 9, 10, 11, 12, 13, 14, 15, 16, 17, 18, 19, 20, 21, 22, 23, 24, 25, 26, 27, 28, 29, 30, 31, 32, 33, 34] rfl rfl (g_kk1 (w2 := wF f cI cJ cZ C N S8 Qk9 X6) (by rw [eQk9]; rw [eS8]; exact ⟨[0, 1, 2, 3, 4, 5, 6, 7, 8, 9, 10, 11, 12, 13, 14, 15, 16, 17, 18, 19, 20, 21, 22, 23, 24, 25, 26, 27, 28, 29, 30, 31, 32, 33, 34], [], [0, 1, 2, 3, 4, 5, 6, 7, 8, 9, 10, 11, 12, 13, 14, 15, 16, 17, 18, 19, 20, 21, 22, 23, 24, 25, 26, 27, 28, 29, 30, 31, 32, 33, 34], [], rfl, rfl, rfl, rfl, by decide, rfl, rfl⟩) ?_)
  refine g_aload_n X 0 dX0_passMonth_30 rfl rfl ?_
  refine g_get X (C := RX0) (T := TX0) (N := 11) (v := .ref (f 1)) inlX0 0 rfl rfl 2 (Nat.le_of_ble_eq_true rfl) kF_X0_21 rfl dX0_passMonth_31 ?_
  obtain ⟨S10, eS10⟩ : ∃ z : St, z = crk C S8 := ⟨_, rfl⟩
  obtain ⟨X11, eX11⟩ : ∃ z : St, z = itr (ahd S8) X6 12 := ⟨_, rfl⟩
  refine g_callV X (As := []) (rest := []) (m_X1_flowThroughCracks l D cI cJ cZ (fun i => f (1 + i)) C S8 X6  (by (try rw [eQk9]); (try rw [eS8]); (try rw [eS7]); (try rw [eX6]); (try rw [eS5]); (try rw [eX4]); (try rw [eS3]); (try rw [eS2]); (try rw [eS1]); exact h5.ok (by omega))) kM_X0_98 kI_yX1_flowThroughCracks kS_yX1_flowThroughCracks kZ_RX1 kC_yX1_flowThroughCracks hV_X1_flowThroughCracks rfl rfl rfl 0 rfl (ci := 1) rfl ⟨Nat.le_of_ble_eq_true rfl, Nat.le_of_ble_eq_true rfl⟩ ⟨Nat.le_of_ble_eq_true rfl, Nat.le_of_ble_eq_true rfl⟩ (Nat.le_of_ble_eq_true rfl) dX0_passMonth_34 rfl [1, 2, 3, 4, 5, 6, 7, 8, 9, 10] rfl rfl (g_kk1 (w2 := wF f cI cJ cZ C N S10 Qk9 X11) (by rw [eX11]; rw [eS10]; exact ⟨[1, 2, 3, 4, 5, 6, 7, 8, 9, 10], [0, 11, 12, 13, 14, 15, 16, 17, 18, 19, 20, 21, 22, 23, 24, 25, 26, 27, 28, 29, 30, 31, 32, 33, 34], [0, 25, 26, 27, 28, 29, 30, 31, 32, 33, 34, 1, 2, 3, 4, 5, 6, 7, 8, 9, 10, 11, 12, 13, 14, 15, 16, 17, 18, 19, 20, 21, 22, 23, 24], ([0, 11, 12, 13, 14, 15, 16, 17, 18, 19, 20, 21, 22, 23, 24, 25, 26, 27, 28, 29, 30, 31, 32, 33, 34].filterMap fun i => (wF f cI cJ cZ C N S8 Qk9 X6)[i]?), rfl, rfl, rfl, rfl, by decide, (by rw [wF_g (S' := crk C S8) (S := S8) (fun c h => crk_oth _ _ h)]; rfl), rfl⟩) ?_)
  refine g_aload_n X 0 dX0_passMonth_37 rfl rfl ?_
  obtain ⟨S12, eS12⟩ : ∃ z : St, z = itr (raS C) S10 12 := ⟨_, rfl⟩
  refine g_callV X (As := []) (rest := []) (m_X0_rainAndWarm l D cI cJ cZ f C N S10 Qk9 X11 (k + 100000) hR (by (try rw [eX11]); (try rw [eS10]); (try rw [eQk9]); (try rw [eS8]); (try rw [eS7]); (try rw [eX6]); (try rw [eS5]); (try rw [eX4]); (try rw [eS3]); (try rw [eS2]); (try rw [eS1]); exact h6) (by omega) (by omega)) kM_X0_101 kI_yX0_rainAndWarm kS_yX0_rainAndWarm kZ_RX0 kC_yX0_rainAndWarm hV_X0_rainAndWarm rfl rfl rfl 0 rfl (ci := 0) rfl ⟨Nat.le_of_ble_eq_true rfl, Nat.le_of_ble_eq_true rfl⟩ ⟨Nat.le_of_ble_eq_true rfl, Nat.le_of_ble_eq_true rfl⟩ (Nat.le_of_ble_eq_true rfl) dX0_passMonth_38 rfl [0, 1, 2, 3, 4, 5, 6, 7, 8, 9, 10, 11, 12, 13, 14, 15, 16, 17, 18, 19, 20, 21, 22, 23, 24, 25, 26, 27, 28, 29, 30, 31, 32, 33, 34] rfl rfl (g_kk1 (w2 := wF f cI cJ cZ C N S12 Qk9 X11) (by rw [eS12]; exact ⟨[0, 1, 2, 3, 4, 5, 6, 7, 8, 9, 10, 11, 12, 13, 14, 15, 16, 17, 18, 19, 20, 21, 22, 23, 24, 25, 26, 27, 28, 29, 30, 31, 32, 33, 34], [], [0, 1, 2, 3, 4, 5, 6, 7, 8, 9, 10, 11, 12, 13, 14, 15, 16, 17, 18, 19, 20, 21, 22, 23, 24, 25, 26, 27, 28, 29, 30, 31, 32, 33, 34], [], rfl, rfl, rfl, rfl, by decide, rfl, rfl⟩) ?_)
  refine g_aload_n X 0 dX0_passMonth_41 rfl rfl ?_
  obtain ⟨S13, eS13⟩ : ∃ z : St, z = itr (feS C) S12 (N 2) := ⟨_, rfl⟩
  refine g_callV X (As := []) (rest := []) (m_X0_feedSprings l D cI cJ cZ f C N S12 Qk9 X11 (k + 100000 + 500) hC (by (try rw [eS12]); (try rw [eX11]); (try rw [eS10]); (try rw [eQk9]); (try rw [eS8]); (try rw [eS7]); (try rw [eX6]); (try rw [eS5]); (try rw [eX4]); (try rw [eS3]); (try rw [eS2]); (try rw [eS1]); exact h7) (by omega)) kM_X0_104 kI_yX0_feedSprings kS_yX0_feedSprings kZ_RX0 kC_yX0_feedSprings hV_X0_feedSprings rfl rfl rfl 0 rfl (ci := 0) rfl ⟨Nat.le_of_ble_eq_true rfl, Nat.le_of_ble_eq_true rfl⟩ ⟨Nat.le_of_ble_eq_true rfl, Nat.le_of_ble_eq_true rfl⟩ (Nat.le_of_ble_eq_true rfl) dX0_passMonth_42 rfl [0, 1, 2, 3, 4, 5, 6, 7, 8, 9, 10, 11, 12, 13, 14, 15, 16, 17, 18, 19, 20, 21, 22, 23, 24, 25, 26, 27, 28, 29, 30, 31, 32, 33, 34] rfl rfl (g_kk1 (w2 := wF f cI cJ cZ C N S13 Qk9 X11) (by rw [eS13]; exact ⟨[0, 1, 2, 3, 4, 5, 6, 7, 8, 9, 10, 11, 12, 13, 14, 15, 16, 17, 18, 19, 20, 21, 22, 23, 24, 25, 26, 27, 28, 29, 30, 31, 32, 33, 34], [], [0, 1, 2, 3, 4, 5, 6, 7, 8, 9, 10, 11, 12, 13, 14, 15, 16, 17, 18, 19, 20, 21, 22, 23, 24, 25, 26, 27, 28, 29, 30, 31, 32, 33, 34], [], rfl, rfl, rfl, rfl, by decide, rfl, rfl⟩) ?_)
  refine g_vret X hr hlk hQ dX0_passMonth_45 ?_
  show g_eq _ _ _ _
  try rw [eS13]
  try rw [eS12]
  try rw [eX11]
  try rw [eS10]
  try rw [eQk9]
  try rw [eS8]
  try rw [eS7]
  try rw [eX6]
  try rw [eS5]
  try rw [eX4]
  try rw [eS3]
  try rw [eS2]
  try rw [eS1]
  exact ⟨rfl, rfl⟩
