/-! the reference's calls: raw numbers in, a code of what is thrown -/
def nN (v : Int32) : Nat := v.toNatClampNeg
theorem nN_nI {n : Nat} (h : n < 2 ^ 31) : nN (nI n) = n := nI_clamp h
theorem inB_n {v : Int32} {n : Nat} (hn : n < 1000) (h : inB v (nI 0) (nI n) = true) : nN v < n + 1 ∧ v = nI (nN v) := by
  unfold inB at h
  by_cases h1 : v < nI 0
  · rw [if_pos h1] at h
    exact absurd h (by decide)
  · rw [if_neg h1] at h
    by_cases h2 : nI n < v
    · rw [if_pos h2] at h
      exact absurd h (by decide)
    · obtain ⟨j, hj, e, _, ej, _⟩ := pk_mu (x := v) (L := n + 1) h1 (fun z => h2 (by
        rw [Int32.lt_iff_toInt_lt, nI_toInt (by omega)]
        rw [Int32.le_iff_toInt_le, nI_toInt (by omega)] at z
        omega)) (by omega)
      unfold nN
      rw [ej]
      exact ⟨hj, e⟩
def cB2 (v q : Int32) (n : Nat) : Nat := if inB v (nI 0) (nI 11) = true then (if inB q (nI 0) (nI n) = true then 0 else 2) else 1
theorem le0_n {n : Nat} (hn : n < 1000) (h : nI n ≤ 0) : n = 0 := by
  rw [Int32.le_iff_toInt_le, nI_toInt (by omega)] at h
  have : (0 : Int32).toInt = 0 := rfl
  omega
theorem cB2_3 (v q : Int32) (n : Nat) : cB2 v q n < 1000 := by unfold cB2; (repeat' split) <;> omega
theorem cB2_0 {v q : Int32} {n : Nat} (h : cB2 v q n = 0) : inB v (nI 0) (nI 11) = true ∧ inB q (nI 0) (nI n) = true := by
  unfold cB2 at h
  by_cases h1 : inB v (nI 0) (nI 11) = true
  · rw [if_pos h1] at h
    by_cases h2 : inB q (nI 0) (nI n) = true
    · exact ⟨h1, h2⟩
    · rw [if_neg h2] at h
      exact absurd h (by decide)
  · rw [if_neg h1] at h
    exact absurd h (by decide)
def obV (S : St) (v q : Int32) : Int64 := if cB2 v q 5 = 0 then tolM S (nN v) (nN q) else 0

theorem hV_X7_ofBlock : yX7_ofBlock.cls = RX7 ∧ yX7_ofBlock.cls ≠ "java/lang/invoke/MethodHandle" ∧ yX7_ofBlock.cls ≠ "java/lang/invoke/VarHandle" ∧ (parseMethodDescriptor yX7_ofBlock.desc).map (fun d => d.parameters.length) = some 2 := by decide +kernel
abbrev rm_X7_ofBlock : Room := { frames := 2, cells := 0, slots := 0, locals := 43 }
set_option maxRecDepth 100000 in
set_option maxHeartbeats 4000000 in
theorem m_X7_ofBlock (l : Launch) (D : va_G) (cI cJ cZ : ClassId) (h : Nat → Nat) (th : Int32) (C : Cf) (N : Nat → Nat) (S : St) (Qk K P : Nat → Int64) (Y : St) (v q : Int32) (hW : Wok S) : g_Ct l D cI cJ cZ yX7_ofBlock cX7_ofBlock 3 (some .long) rm_X7_ofBlock 0 0 [.ref (h 0), .int v, .int q] (wM h cI cJ cZ th C N S Qk K P Y) (g_eq (some (.long (obV S v q))) (wM h cI cJ cZ (nI (cB2 v q 5)) C N S Qk K P Y)) := by
  refine g_body RX7 [(0, .ref (h 0)), (1, .int v), (2, .int q)] kH_X7 rfl (Nat.le_of_ble_eq_true rfl) rfl ?_
  intro p e s m args below meth c A X hr hlk hmn Q hQ
  refine g_aload_n X 0 dX7_ofBlock_0 rfl rfl ?_
  refine g_iload_n X 1 dX7_ofBlock_1 rfl rfl ?_
  refine g_callS X (As := [.int v]) (rest := [.ref (h 0)]) (m_X7_isBlock l D cI cJ cZ v ) kM_X7_91 kT_yX7_isBlock kZ_RX7 kC_yX7_isBlock hV_X7_isBlock rfl rfl rfl ⟨Nat.le_of_ble_eq_true rfl, Nat.le_of_ble_eq_true rfl⟩ ⟨Nat.le_of_ble_eq_true rfl, Nat.le_of_ble_eq_true rfl⟩ (Nat.le_of_ble_eq_true rfl) dX7_ofBlock_2 rfl [] rfl rfl (g_kk1 (w2 := wM h cI cJ cZ th C N S Qk K P Y) ⟨[], [0, 1, 2, 3, 4, 5, 6, 7, 8, 9, 10, 11, 12, 13, 14, 15, 16], [0, 1, 2, 3, 4, 5, 6, 7, 8, 9, 10, 11, 12, 13, 14, 15, 16], ([0, 1, 2, 3, 4, 5, 6, 7, 8, 9, 10, 11, 12, 13, 14, 15, 16].filterMap fun i => (wM h cI cJ cZ th C N S Qk K P Y)[i]?), rfl, rfl, rfl, rfl, by decide, rfl, rfl⟩ ?_)
  have J4 : ∀ (v3 : Nat), v3 = (if (inB v (nI 0) (nI 11)) = true then if (inB q (nI 0) (nI 5)) = true then 0 else 2 else 1) → g_G p l e rm_X7_ofBlock s m args below meth c D A 3 0 0 Q (wM h cI cJ cZ th C N S Qk K P Y) [(0, .ref (h 0)), (1, .int v), (2, .int q)] 26 [.int (nI v3), .ref (h 0)] := by
    intro v3 ev3
    have bv3 : v3 < 2147483648 := by subst ev3; (repeat' split) <;> omega
    replace ev3 := ev3.trans (show _ = cB2 v q 5 from rfl)
    obtain ⟨th5, eth5⟩ : ∃ z : Int32, z = nI v3 := ⟨_, rfl⟩
    refine g_put X (C := RX7) (T := TX7) (N := 21) (ws' := wM h cI cJ cZ th5 C N S Qk K P Y) inlX7 tyX7 tyX7_ok nmX7 0 rfl rfl 0 (Nat.le_of_ble_eq_true rfl) kF_X7_64 rfl rfl rfl (Nat.le_of_ble_eq_true rfl) dX7_ofBlock_26 (by rw [eth5]; first | done | (rfl)) ?_
    refine g_aload_n X 0 dX7_ofBlock_29 rfl rfl ?_
    refine g_get X (C := RX7) (T := TX7) (N := 21) (v := .int th5) inlX7 0 rfl rfl 0 (Nat.le_of_ble_eq_true rfl) kF_X7_64 rfl dX7_ofBlock_30 ?_
    refine g_if_le X (tgt := 40) dX7_ofBlock_33 (by decide) (fun h6 => ?_) (fun h6 => ?_)
    · --
      have hc0 : cB2 v q 5 = 0 := le0_n (cB2_3 _ _ _) (by rw [← ev3, ← eth5]; assumption)
      have hvq := cB2_0 hc0
      obtain ⟨hb, ebv⟩ := inB_n (by decide) hvq.1
      obtain ⟨hk, ekq⟩ := inB_n (by decide) hvq.2
      refine g_aload_n X 0 dX7_ofBlock_40 rfl rfl ?_
      refine g_iload_n X 1 dX7_ofBlock_41 rfl rfl ?_
      refine g_iload_n X 2 dX7_ofBlock_42 rfl rfl ?_
      refine g_st (st' := [.int (nI (nN q)), .int (nI (nN v)), .ref (h 0)]) (by rw [← ekq]; rw [← ebv]; first | done | rfl) ?_
      refine g_callV X (As := [.int (nI (nN v)), .int (nI (nN q))]) (rest := []) (m_X7_told l D cI cJ cZ h th5 C N S Qk K P Y (nN v) (nN q) hb hk hW) kM_X7_188 kI_yX7_told kS_yX7_told kZ_RX7 kC_yX7_told hV_X7_told rfl rfl rfl 0 rfl (ci := 7) rfl ⟨Nat.le_of_ble_eq_true rfl, Nat.le_of_ble_eq_true rfl⟩ ⟨Nat.le_of_ble_eq_true rfl, Nat.le_of_ble_eq_true rfl⟩ (Nat.le_of_ble_eq_true rfl) dX7_ofBlock_43 rfl [0, 1, 2, 3, 4, 5, 6, 7, 8, 9, 10, 11, 12, 13, 14, 15, 16] rfl rfl (g_kk1 (w2 := wM h cI cJ cZ th5 C N S Qk K P Y) ⟨[0, 1, 2, 3, 4, 5, 6, 7, 8, 9, 10, 11, 12, 13, 14, 15, 16], [], [0, 1, 2, 3, 4, 5, 6, 7, 8, 9, 10, 11, 12, 13, 14, 15, 16], [], rfl, rfl, rfl, rfl, by decide, rfl, rfl⟩ ?_)
      refine g_lret X hr hlk hQ dX7_ofBlock_46 ?_
      show g_eq _ _ _ _
      try rw [eth5]
      try rw [ev3]
      refine ⟨congrArg (fun z => some (Value.long z)) ?_, rfl⟩
      exact (if_pos hc0).symm
    · --
      have hc1 : ¬ cB2 v q 5 = 0 := fun z => absurd (show th5 ≤ 0 by rw [eth5, ev3, z]; decide) (by assumption)
      refine g_lconst X (v := 0) dX7_ofBlock_36 (by decide +kernel) ?_
      refine g_goto X (tgt := 46) dX7_ofBlock_37 (by decide) ?_
      refine g_lret X hr hlk hQ dX7_ofBlock_46 ?_
      show g_eq _ _ _ _
      try rw [eth5]
      try rw [ev3]
      refine ⟨congrArg (fun z => some (Value.long z)) ?_, rfl⟩
      exact (if_neg hc1).symm
  refine g_bI_ne X (tgt := 12) dX7_ofBlock_5 (by decide) (fun h1 => ?_) (fun h1 => ?_)
  · --
    refine g_iload_n X 2 dX7_ofBlock_12 rfl rfl ?_
    refine g_iconst X (v := nI 0) dX7_ofBlock_13 (by decide +kernel) ?_
    refine g_iconst X (v := nI 5) dX7_ofBlock_14 (by decide +kernel) ?_
    refine g_callS X (As := [.int q, .int (nI 0), .int (nI 5)]) (rest := [.ref (h 0)]) (m_X7_in l D cI cJ cZ q (nI 0) (nI 5) ) kM_X7_68 kT_yX7_in kZ_RX7 kC_yX7_in hV_X7_in rfl rfl rfl ⟨Nat.le_of_ble_eq_true rfl, Nat.le_of_ble_eq_true rfl⟩ ⟨Nat.le_of_ble_eq_true rfl, Nat.le_of_ble_eq_true rfl⟩ (Nat.le_of_ble_eq_true rfl) dX7_ofBlock_15 rfl [] rfl rfl (g_kk1 (w2 := wM h cI cJ cZ th C N S Qk K P Y) ⟨[], [0, 1, 2, 3, 4, 5, 6, 7, 8, 9, 10, 11, 12, 13, 14, 15, 16], [0, 1, 2, 3, 4, 5, 6, 7, 8, 9, 10, 11, 12, 13, 14, 15, 16], ([0, 1, 2, 3, 4, 5, 6, 7, 8, 9, 10, 11, 12, 13, 14, 15, 16].filterMap fun i => (wM h cI cJ cZ th C N S Qk K P Y)[i]?), rfl, rfl, rfl, rfl, by decide, rfl, rfl⟩ ?_)
    refine g_bI_ne X (tgt := 25) dX7_ofBlock_18 (by decide) (fun h2 => ?_) (fun h2 => ?_)
    · --
      refine g_iconst X (v := nI 0) dX7_ofBlock_25 (by decide +kernel) ?_
      exact J4 _ (by rw [if_pos (c := (inB v (nI 0) (nI 11)) = true) h1, if_pos (c := (inB q (nI 0) (nI 5)) = true) h2])
    · --
      refine g_iconst X (v := nI 2) dX7_ofBlock_21 (by decide +kernel) ?_
      refine g_goto X (tgt := 26) dX7_ofBlock_22 (by decide) ?_
      exact J4 _ (by rw [if_pos (c := (inB v (nI 0) (nI 11)) = true) h1, if_neg (c := (inB q (nI 0) (nI 5)) = true) (by rw [h2]; decide)])
  · --
    refine g_iconst X (v := nI 1) dX7_ofBlock_8 (by decide +kernel) ?_
    refine g_goto X (tgt := 26) dX7_ofBlock_9 (by decide) ?_
    exact J4 _ (by rw [if_neg (c := (inB v (nI 0) (nI 11)) = true) (by rw [h1]; decide)])
def cR1 (v lo hi : Int32) : Nat := if inB v lo hi = false then 1 else 0
theorem cR1_3 (v lo hi : Int32) : cR1 v lo hi < 1000 := by unfold cR1; split <;> omega
theorem cR1_0 {v lo hi : Int32} (h : cR1 v lo hi = 0) : inB v lo hi = true := by
  unfold cR1 at h
  by_cases h1 : inB v lo hi = false
  · rw [if_pos h1] at h
    exact absurd h (by decide)
  · simpa using h1
def cU2 (N1 : Nat) (v q : Int32) : Nat := if inB v (nI 0) (nI 100) = false then 1 else if inB q (nI 1) (nI 50) = true then (if ¬ N1 = 6 then 0 else 2) else 1

theorem hV_X7_rain : yX7_rain.cls = RX7 ∧ yX7_rain.cls ≠ "java/lang/invoke/MethodHandle" ∧ yX7_rain.cls ≠ "java/lang/invoke/VarHandle" ∧ (parseMethodDescriptor yX7_rain.desc).map (fun d => d.parameters.length) = some 1 := by decide +kernel
abbrev rm_X7_rain : Room := { frames := 1, cells := 0, slots := 0, locals := 22 }
set_option maxRecDepth 100000 in
set_option maxHeartbeats 4000000 in
theorem m_X7_rain (l : Launch) (D : va_G) (cI cJ cZ : ClassId) (h : Nat → Nat) (th : Int32) (C : Cf) (N : Nat → Nat) (S : St) (Qk K P : Nat → Int64) (Y : St) (v : Int32)  : g_Ct l D cI cJ cZ yX7_rain cX7_rain 3 (some .int) rm_X7_rain 0 0 [.ref (h 0), .int v] (wM h cI cJ cZ th C N S Qk K P Y) (g_eq (some (.int (if cR1 v (nI 0) (nI 500) = 0 then C 10 0 else nI 0))) (wM h cI cJ cZ (nI (cR1 v (nI 0) (nI 500))) (if cR1 v (nI 0) (nI 500) = 0 then c2 C 10 0 v else C) N S Qk K P Y)) := by
  refine g_body RX7 [(0, .ref (h 0)), (1, .int v)] kH_X7 rfl (Nat.le_of_ble_eq_true rfl) rfl ?_
  intro p e s m args below meth c A X hr hlk hmn Q hQ
  refine g_aload_n X 0 dX7_rain_0 rfl rfl ?_
  refine g_iload_n X 1 dX7_rain_1 rfl rfl ?_
  refine g_iconst X (v := nI 0) dX7_rain_2 (by decide +kernel) ?_
  refine g_sipush X (v := nI 500) dX7_rain_3 (by decide +kernel) ?_
  refine g_callS X (As := [.int v, .int (nI 0), .int (nI 500)]) (rest := [.ref (h 0)]) (m_X7_in l D cI cJ cZ v (nI 0) (nI 500) ) kM_X7_68 kT_yX7_in kZ_RX7 kC_yX7_in hV_X7_in rfl rfl rfl ⟨Nat.le_of_ble_eq_true rfl, Nat.le_of_ble_eq_true rfl⟩ ⟨Nat.le_of_ble_eq_true rfl, Nat.le_of_ble_eq_true rfl⟩ (Nat.le_of_ble_eq_true rfl) dX7_rain_6 rfl [] rfl rfl (g_kk1 (w2 := wM h cI cJ cZ th C N S Qk K P Y) ⟨[], [0, 1, 2, 3, 4, 5, 6, 7, 8, 9, 10, 11, 12, 13, 14, 15, 16], [0, 1, 2, 3, 4, 5, 6, 7, 8, 9, 10, 11, 12, 13, 14, 15, 16], ([0, 1, 2, 3, 4, 5, 6, 7, 8, 9, 10, 11, 12, 13, 14, 15, 16].filterMap fun i => (wM h cI cJ cZ th C N S Qk K P Y)[i]?), rfl, rfl, rfl, rfl, by decide, rfl, rfl⟩ ?_)
  have J3 : ∀ (v2 : Nat), v2 = (if (inB v (nI 0) (nI 500)) = false then 1 else 0) → g_G p l e rm_X7_rain s m args below meth c D A 3 0 0 Q (wM h cI cJ cZ th C N S Qk K P Y) [(0, .ref (h 0)), (1, .int v)] 17 [.int (nI v2), .ref (h 0)] := by
    intro v2 ev2
    have bv2 : v2 < 2147483648 := by subst ev2; (repeat' split) <;> omega
    replace ev2 := ev2.trans (show _ = cR1 v (nI 0) (nI 500) from rfl)
    obtain ⟨th4, eth4⟩ : ∃ z : Int32, z = nI v2 := ⟨_, rfl⟩
    refine g_put X (C := RX7) (T := TX7) (N := 21) (ws' := wM h cI cJ cZ th4 C N S Qk K P Y) inlX7 tyX7 tyX7_ok nmX7 0 rfl rfl 0 (Nat.le_of_ble_eq_true rfl) kF_X7_64 rfl rfl rfl (Nat.le_of_ble_eq_true rfl) dX7_rain_17 (by rw [eth4]; first | done | (rfl)) ?_
    refine g_aload_n X 0 dX7_rain_20 rfl rfl ?_
    refine g_get X (C := RX7) (T := TX7) (N := 21) (v := .int th4) inlX7 0 rfl rfl 0 (Nat.le_of_ble_eq_true rfl) kF_X7_64 rfl dX7_rain_21 ?_
    refine g_if_le X (tgt := 29) dX7_rain_24 (by decide) (fun h5 => ?_) (fun h5 => ?_)
    · --
      have hc0 : cR1 v (nI 0) (nI 500) = 0 := le0_n (cR1_3 _ _ _) (by rw [← ev2, ← eth4]; assumption)
      refine g_aload_n X 0 dX7_rain_29 rfl rfl ?_
      refine g_get X (C := RX7) (T := TX7) (N := 21) (v := .int (C 10 0)) inlX7 0 rfl rfl 5 (Nat.le_of_ble_eq_true rfl) kF_X7_96 rfl dX7_rain_30 ?_
      refine g_istore_n X [(2, .int (C 10 0)), (0, .ref (h 0)), (1, .int v)] dX7_rain_33 rfl (Nat.le_of_ble_eq_true rfl) rfl ?_
      refine g_aload_n X 1 dX7_rain_34 rfl rfl ?_
      refine g_iload_n X 2 dX7_rain_35 rfl rfl ?_
      obtain ⟨C6, eC6⟩ : ∃ z : Cf, z = c2 C 10 0 v := ⟨_, rfl⟩
      refine g_put X (C := RX7) (T := TX7) (N := 21) (ws' := wM h cI cJ cZ th4 C6 N S Qk K P Y) inlX7 tyX7 tyX7_ok nmX7 0 rfl rfl 5 (Nat.le_of_ble_eq_true rfl) kF_X7_96 rfl rfl rfl (Nat.le_of_ble_eq_true rfl) dX7_rain_36 (by rw [eC6]; first | done | (rfl)) ?_
      refine g_iload_n X 0 dX7_rain_39 rfl rfl ?_
      refine g_iret X hr hlk hQ dX7_rain_40 ?_
      show g_eq _ _ _ _
      try rw [eC6]
      try rw [eth4]
      try rw [ev2]
      refine ⟨?_, ?_⟩ <;> repeat rw [if_pos hc0]
    · --
      have hc1 : ¬ cR1 v (nI 0) (nI 500) = 0 := fun z => absurd (show th4 ≤ 0 by rw [eth4, ev2, z]; decide) (by assumption)
      refine g_iconst X (v := nI 0) dX7_rain_27 (by decide +kernel) ?_
      refine g_iret X hr hlk hQ dX7_rain_28 ?_
      show g_eq _ _ _ _
      try rw [eth4]
      try rw [ev2]
      refine ⟨?_, ?_⟩ <;> repeat rw [if_neg hc1]
  refine g_bI_eq X (tgt := 16) dX7_rain_9 (by decide) (fun h1 => ?_) (fun h1 => ?_)
  · --
    refine g_iconst X (v := nI 1) dX7_rain_16 (by decide +kernel) ?_
    exact J3 _ (by rw [if_pos (c := (inB v (nI 0) (nI 500)) = false) h1])
  · --
    refine g_iconst X (v := nI 0) dX7_rain_12 (by decide +kernel) ?_
    refine g_goto X (tgt := 17) dX7_rain_13 (by decide) ?_
    exact J3 _ (by rw [if_neg (c := (inB v (nI 0) (nI 500)) = false) (by rw [h1]; decide)])
theorem cU2_3 (N1 : Nat) (v q : Int32) : cU2 N1 v q < 1000 := by unfold cU2; (repeat' split) <;> omega
theorem cU2_0 {N1 : Nat} {v q : Int32} (h : cU2 N1 v q = 0) : inB v (nI 0) (nI 100) = true ∧ inB q (nI 1) (nI 50) = true ∧ ¬ N1 = 6 := by
  unfold cU2 at h
  by_cases h1 : inB v (nI 0) (nI 100) = false
  · rw [if_pos h1] at h
    exact absurd h (by decide)
  · rw [if_neg h1] at h
    by_cases h2 : inB q (nI 1) (nI 50) = true
    · rw [if_pos h2] at h
      by_cases h3 : ¬ N1 = 6
      · exact ⟨by simpa using h1, h2, h3⟩
      · rw [if_neg h3] at h
        exact absurd h (by decide)
    · rw [if_neg h2] at h
      exact absurd h (by decide)

theorem hV_X7_use : yX7_use.cls = RX7 ∧ yX7_use.cls ≠ "java/lang/invoke/MethodHandle" ∧ yX7_use.cls ≠ "java/lang/invoke/VarHandle" ∧ (parseMethodDescriptor yX7_use.desc).map (fun d => d.parameters.length) = some 2 := by decide +kernel
abbrev rm_X7_use : Room := { frames := 1, cells := 0, slots := 0, locals := 22 }
set_option maxRecDepth 100000 in
set_option maxHeartbeats 4000000 in
theorem m_X7_use (l : Launch) (D : va_G) (cI cJ cZ : ClassId) (h : Nat → Nat) (th : Int32) (C : Cf) (N : Nat → Nat) (S : St) (Qk K P : Nat → Int64) (Y : St) (v q : Int32) (hC : Cok C N) : g_Ct l D cI cJ cZ yX7_use cX7_use 3 (some .int) rm_X7_use 0 0 [.ref (h 0), .int v, .int q] (wM h cI cJ cZ th C N S Qk K P Y) (g_eq (some (.int (if cU2 (N 1) v q = 0 then nI (N 1) else nI 0))) (wM h cI cJ cZ (nI (cU2 (N 1) v q)) (if cU2 (N 1) v q = 0 then c2 (c2 C 5 (N 1) v) 6 (N 1) q else C) (if cU2 (N 1) v q = 0 then n2 N 1 (N 1 + 1) else N) S Qk K P Y)) := by
  refine g_body RX7 [(0, .ref (h 0)), (1, .int v), (2, .int q)] kH_X7 rfl (Nat.le_of_ble_eq_true rfl) rfl ?_
  intro p e s m args below meth c A X hr hlk hmn Q hQ
  have hN0 := hC.n0
  have hN1 := hC.n1
  have hN2 := hC.n2
  refine g_aload_n X 0 dX7_use_0 rfl rfl ?_
  refine g_iload_n X 1 dX7_use_1 rfl rfl ?_
  refine g_iconst X (v := nI 0) dX7_use_2 (by decide +kernel) ?_
  refine g_bipush X (v := nI 100) dX7_use_3 (by decide +kernel) ?_
  refine g_callS X (As := [.int v, .int (nI 0), .int (nI 100)]) (rest := [.ref (h 0)]) (m_X7_in l D cI cJ cZ v (nI 0) (nI 100) ) kM_X7_68 kT_yX7_in kZ_RX7 kC_yX7_in hV_X7_in rfl rfl rfl ⟨Nat.le_of_ble_eq_true rfl, Nat.le_of_ble_eq_true rfl⟩ ⟨Nat.le_of_ble_eq_true rfl, Nat.le_of_ble_eq_true rfl⟩ (Nat.le_of_ble_eq_true rfl) dX7_use_5 rfl [] rfl rfl (g_kk1 (w2 := wM h cI cJ cZ th C N S Qk K P Y) ⟨[], [0, 1, 2, 3, 4, 5, 6, 7, 8, 9, 10, 11, 12, 13, 14, 15, 16], [0, 1, 2, 3, 4, 5, 6, 7, 8, 9, 10, 11, 12, 13, 14, 15, 16], ([0, 1, 2, 3, 4, 5, 6, 7, 8, 9, 10, 11, 12, 13, 14, 15, 16].filterMap fun i => (wM h cI cJ cZ th C N S Qk K P Y)[i]?), rfl, rfl, rfl, rfl, by decide, rfl, rfl⟩ ?_)
  have J5 : ∀ (v4 : Nat), v4 = (if (inB v (nI 0) (nI 100)) = false then 1 else if (inB q (nI 1) (nI 50)) = true then if ¬ N 1 = 6 then 0 else 2 else 1) → g_G p l e rm_X7_use s m args below meth c D A 3 0 0 Q (wM h cI cJ cZ th C N S Qk K P Y) [(0, .ref (h 0)), (1, .int v), (2, .int q)] 39 [.int (nI v4), .ref (h 0)] := by
    intro v4 ev4
    have bv4 : v4 < 2147483648 := by subst ev4; (repeat' split) <;> omega
    replace ev4 := ev4.trans (show _ = cU2 (N 1) v q from rfl)
    obtain ⟨th6, eth6⟩ : ∃ z : Int32, z = nI v4 := ⟨_, rfl⟩
    refine g_put X (C := RX7) (T := TX7) (N := 21) (ws' := wM h cI cJ cZ th6 C N S Qk K P Y) inlX7 tyX7 tyX7_ok nmX7 0 rfl rfl 0 (Nat.le_of_ble_eq_true rfl) kF_X7_64 rfl rfl rfl (Nat.le_of_ble_eq_true rfl) dX7_use_39 (by rw [eth6]; first | done | (rfl)) ?_
    refine g_aload_n X 0 dX7_use_42 rfl rfl ?_
    refine g_get X (C := RX7) (T := TX7) (N := 21) (v := .int th6) inlX7 0 rfl rfl 0 (Nat.le_of_ble_eq_true rfl) kF_X7_64 rfl dX7_use_43 ?_
    refine g_if_le X (tgt := 51) dX7_use_46 (by decide) (fun h7 => ?_) (fun h7 => ?_)
    · --
      have hc0 : cU2 (N 1) v q = 0 := le0_n (cU2_3 _ _ _) (by rw [← ev4, ← eth6]; assumption)
      have hn6 := (cU2_0 hc0).2.2
      have hn5 : N 1 < 6 := by omega
      refine g_aload_n X 0 dX7_use_51 rfl rfl ?_
      refine g_get X (C := RX7) (T := TX7) (N := 21) (v := .ref (h 9)) inlX7 0 rfl rfl 12 (Nat.le_of_ble_eq_true rfl) kF_X7_36 rfl dX7_use_52 ?_
      refine g_aload_n X 0 dX7_use_55 rfl rfl ?_
      refine g_get X (C := RX7) (T := TX7) (N := 21) (v := .int (nI (N 1))) inlX7 0 rfl rfl 11 (Nat.le_of_ble_eq_true rfl) kF_X7_104 rfl dX7_use_56 ?_
      refine g_iload_n X 1 dX7_use_59 rfl rfl ?_
      obtain ⟨C8, eC8⟩ : ∃ z : Cf, z = c2 C 5 (N 1) v := ⟨_, rfl⟩
      refine g_iast X (ws' := wM h cI cJ cZ th6 C8 N S Qk K P Y) 9 rfl (N 1) rfl (by omega) (Nat.le_of_ble_eq_true rfl) dX7_use_60 (by rw [eC8]; first | done | (rfl)) ?_
      refine g_aload_n X 0 dX7_use_61 rfl rfl ?_
      refine g_get X (C := RX7) (T := TX7) (N := 21) (v := .ref (h 10)) inlX7 0 rfl rfl 13 (Nat.le_of_ble_eq_true rfl) kF_X7_39 rfl dX7_use_62 ?_
      refine g_aload_n X 0 dX7_use_65 rfl rfl ?_
      refine g_get X (C := RX7) (T := TX7) (N := 21) (v := .int (nI (N 1))) inlX7 0 rfl rfl 11 (Nat.le_of_ble_eq_true rfl) kF_X7_104 rfl dX7_use_66 ?_
      refine g_iload_n X 2 dX7_use_69 rfl rfl ?_
      obtain ⟨C9, eC9⟩ : ∃ z : Cf, z = c2 C8 6 (N 1) q := ⟨_, rfl⟩
      refine g_iast X (ws' := wM h cI cJ cZ th6 C9 N S Qk K P Y) 10 rfl (N 1) rfl (by omega) (Nat.le_of_ble_eq_true rfl) dX7_use_70 (by rw [eC9]; first | done | (rfl)) ?_
      refine g_aload_n X 0 dX7_use_71 rfl rfl ?_
      refine g_dup X dX7_use_72 rfl ?_
      refine g_get X (C := RX7) (T := TX7) (N := 21) (v := .int (nI (N 1))) inlX7 0 rfl rfl 11 (Nat.le_of_ble_eq_true rfl) kF_X7_104 rfl dX7_use_73 ?_
      refine g_iconst X (v := nI 1) dX7_use_76 (by decide +kernel) ?_
      refine g_iadd X (v := nI (N 1 + 1)) dX7_use_77 ((nI_add _ _).trans (congrArg nI (by omega))) ?_
      obtain ⟨N10, eN10⟩ : ∃ z : Nat → Nat, z = n2 N 1 (N 1 + 1) := ⟨_, rfl⟩
      refine g_put X (C := RX7) (T := TX7) (N := 21) (ws' := wM h cI cJ cZ th6 C9 N10 S Qk K P Y) inlX7 tyX7 tyX7_ok nmX7 0 rfl rfl 11 (Nat.le_of_ble_eq_true rfl) kF_X7_104 rfl rfl rfl (Nat.le_of_ble_eq_true rfl) dX7_use_78 (by rw [eN10]; first | done | (rfl)) ?_
      refine g_aload_n X 0 dX7_use_81 rfl rfl ?_
      refine g_get X (C := RX7) (T := TX7) (N := 21) (v := .int (nI (N 1 + 1))) inlX7 0 rfl rfl 11 (Nat.le_of_ble_eq_true rfl) kF_X7_104 (by rw [eN10]; rfl) dX7_use_82 ?_
      refine g_iconst X (v := nI 1) dX7_use_85 (by decide +kernel) ?_
      refine g_isub X (v := nI (N 1)) dX7_use_86 (pk_sub (by omega)) ?_
      refine g_iret X hr hlk hQ dX7_use_87 ?_
      show g_eq _ _ _ _
      try rw [eN10]
      try rw [eC9]
      try rw [eC8]
      try rw [eth6]
      try rw [ev4]
      refine ⟨?_, ?_⟩ <;> repeat rw [if_pos hc0]
    · --
      have hc1 : ¬ cU2 (N 1) v q = 0 := fun z => absurd (show th6 ≤ 0 by rw [eth6, ev4, z]; decide) (by assumption)
      refine g_iconst X (v := nI 0) dX7_use_49 (by decide +kernel) ?_
      refine g_iret X hr hlk hQ dX7_use_50 ?_
      show g_eq _ _ _ _
      try rw [eth6]
      try rw [ev4]
      refine ⟨?_, ?_⟩ <;> repeat rw [if_neg hc1]
  refine g_bI_eq X (tgt := 21) dX7_use_8 (by decide) (fun h1 => ?_) (fun h1 => ?_)
  · --
    refine g_iconst X (v := nI 1) dX7_use_21 (by decide +kernel) ?_
    refine g_goto X (tgt := 39) dX7_use_22 (by decide) ?_
    exact J5 _ (by rw [if_pos (c := (inB v (nI 0) (nI 100)) = false) h1])
  · --
    refine g_iload_n X 2 dX7_use_11 rfl rfl ?_
    refine g_iconst X (v := nI 1) dX7_use_12 (by decide +kernel) ?_
    refine g_bipush X (v := nI 50) dX7_use_13 (by decide +kernel) ?_
    refine g_callS X (As := [.int q, .int (nI 1), .int (nI 50)]) (rest := [.ref (h 0)]) (m_X7_in l D cI cJ cZ q (nI 1) (nI 50) ) kM_X7_68 kT_yX7_in kZ_RX7 kC_yX7_in hV_X7_in rfl rfl rfl ⟨Nat.le_of_ble_eq_true rfl, Nat.le_of_ble_eq_true rfl⟩ ⟨Nat.le_of_ble_eq_true rfl, Nat.le_of_ble_eq_true rfl⟩ (Nat.le_of_ble_eq_true rfl) dX7_use_15 rfl [] rfl rfl (g_kk1 (w2 := wM h cI cJ cZ th C N S Qk K P Y) ⟨[], [0, 1, 2, 3, 4, 5, 6, 7, 8, 9, 10, 11, 12, 13, 14, 15, 16], [0, 1, 2, 3, 4, 5, 6, 7, 8, 9, 10, 11, 12, 13, 14, 15, 16], ([0, 1, 2, 3, 4, 5, 6, 7, 8, 9, 10, 11, 12, 13, 14, 15, 16].filterMap fun i => (wM h cI cJ cZ th C N S Qk K P Y)[i]?), rfl, rfl, rfl, rfl, by decide, rfl, rfl⟩ ?_)
    refine g_bI_ne X (tgt := 25) dX7_use_18 (by decide) (fun h2 => ?_) (fun h2 => ?_)
    · --
      refine g_aload_n X 0 dX7_use_25 rfl rfl ?_
      refine g_get X (C := RX7) (T := TX7) (N := 21) (v := .int (nI (N 1))) inlX7 0 rfl rfl 11 (Nat.le_of_ble_eq_true rfl) kF_X7_104 rfl dX7_use_26 ?_
      refine g_bipush X (v := nI 6) dX7_use_29 (by decide +kernel) ?_
      refine g_icN_ne X (a := N 1) (b := 6) (tgt := 38) (by omega) (by omega) dX7_use_31 (by decide) (fun h3 => ?_) (fun h3 => ?_)
      · --
        refine g_iconst X (v := nI 0) dX7_use_38 (by decide +kernel) ?_
        exact J5 _ (by rw [if_neg (c := (inB v (nI 0) (nI 100)) = false) (by rw [h1]; decide), if_pos (c := (inB q (nI 1) (nI 50)) = true) h2, if_pos (c := ¬ N 1 = 6) h3])
      · --
        refine g_iconst X (v := nI 2) dX7_use_34 (by decide +kernel) ?_
        refine g_goto X (tgt := 39) dX7_use_35 (by decide) ?_
        exact J5 _ (by rw [if_neg (c := (inB v (nI 0) (nI 100)) = false) (by rw [h1]; decide), if_pos (c := (inB q (nI 1) (nI 50)) = true) h2, if_neg (c := ¬ N 1 = 6) (fun z => z h3)])
    · --
      refine g_iconst X (v := nI 1) dX7_use_21 (by decide +kernel) ?_
      refine g_goto X (tgt := 39) dX7_use_22 (by decide) ?_
      exact J5 _ (by rw [if_neg (c := (inB v (nI 0) (nI 100)) = false) (by rw [h1]; decide), if_neg (c := (inB q (nI 1) (nI 50)) = true) (by rw [h2]; decide)])
theorem inB_m {v : Int32} {n : Nat} (hn : n ≤ 100) (h : inB v (nI 0) (nI n - nI 1) = true) : nN v < n ∧ v = nI (nN v) := by
  rcases Nat.eq_zero_or_pos n with e | e
  · subst e
    unfold inB at h
    by_cases h1 : v < nI 0
    · rw [if_pos h1] at h
      exact absurd h (by decide)
    · rw [if_neg h1, if_pos (by
        rw [Int32.lt_iff_toInt_lt] at h1 ⊢
        have e0 : (nI 0).toInt = 0 := by decide
        have e1 : (nI 0 - nI 1).toInt = -1 := by decide
        omega)] at h
      exact absurd h (by decide)
  · rw [pk_sub (by omega)] at h
    have := inB_n (n := n - 1) (by omega) h
    exact ⟨by omega, this.2⟩
/-- a number of a list, and a second number in its bounds -/
def cI2 (n : Nat) (v q lo hi : Int32) : Nat := if inB v (nI 0) (nI n - nI 1) = true then (if inB q lo hi = true then 0 else 2) else 1
theorem cI2_3 (n : Nat) (v q lo hi : Int32) : cI2 n v q lo hi < 1000 := by unfold cI2; (repeat' split) <;> omega
theorem cI2_0 {n : Nat} {v q lo hi : Int32} (h : cI2 n v q lo hi = 0) : inB v (nI 0) (nI n - nI 1) = true ∧ inB q lo hi = true := by
  unfold cI2 at h
  by_cases h1 : inB v (nI 0) (nI n - nI 1) = true
  · rw [if_pos h1] at h
    by_cases h2 : inB q lo hi = true
    · exact ⟨h1, h2⟩
    · rw [if_neg h2] at h
      exact absurd h (by decide)
  · rw [if_neg h1] at h
    exact absurd h (by decide)

theorem hV_X7_promise : yX7_promise.cls = RX7 ∧ yX7_promise.cls ≠ "java/lang/invoke/MethodHandle" ∧ yX7_promise.cls ≠ "java/lang/invoke/VarHandle" ∧ (parseMethodDescriptor yX7_promise.desc).map (fun d => d.parameters.length) = some 2 := by decide +kernel
abbrev rm_X7_promise : Room := { frames := 2, cells := 0, slots := 0, locals := 43 }
set_option maxRecDepth 100000 in
set_option maxHeartbeats 4000000 in
theorem m_X7_promise (l : Launch) (D : va_G) (cI cJ cZ : ClassId) (h : Nat → Nat) (th : Int32) (C : Cf) (N : Nat → Nat) (S : St) (Qk K P : Nat → Int64) (Y : St) (v q : Int32) (hC : Cok C N) : g_Ct l D cI cJ cZ yX7_promise cX7_promise 4 (some .int) rm_X7_promise 0 0 [.ref (h 0), .int v, .int q] (wM h cI cJ cZ th C N S Qk K P Y) (g_eq (some (.int (if cI2 (N 2) v q (nI 0) (nI 50000) = 0 then C 9 (nN v) else nI 0))) (wM h cI cJ cZ (nI (cI2 (N 2) v q (nI 0) (nI 50000))) (if cI2 (N 2) v q (nI 0) (nI 50000) = 0 then c2 C 9 (nN v) q else C) N S Qk K P Y)) := by
  refine g_body RX7 [(0, .ref (h 0)), (1, .int v), (2, .int q)] kH_X7 rfl (Nat.le_of_ble_eq_true rfl) rfl ?_
  intro p e s m args below meth c A X hr hlk hmn Q hQ
  have hN0 := hC.n0
  have hN1 := hC.n1
  have hN2 := hC.n2
  refine g_aload_n X 0 dX7_promise_0 rfl rfl ?_
  refine g_aload_n X 0 dX7_promise_1 rfl rfl ?_
  refine g_iload_n X 1 dX7_promise_2 rfl rfl ?_
  refine g_callV X (As := [.int v]) (rest := [.ref (h 0)]) (m_X7_isSpring l D cI cJ cZ h th C N S Qk K P Y v ) kM_X7_107 kI_yX7_isSpring kS_yX7_isSpring kZ_RX7 kC_yX7_isSpring hV_X7_isSpring rfl rfl rfl 0 rfl (ci := 7) rfl ⟨Nat.le_of_ble_eq_true rfl, Nat.le_of_ble_eq_true rfl⟩ ⟨Nat.le_of_ble_eq_true rfl, Nat.le_of_ble_eq_true rfl⟩ (Nat.le_of_ble_eq_true rfl) dX7_promise_3 rfl [0, 1, 2, 3, 4, 5, 6, 7, 8, 9, 10, 11, 12, 13, 14, 15, 16] rfl rfl (g_kk1 (w2 := wM h cI cJ cZ th C N S Qk K P Y) ⟨[0, 1, 2, 3, 4, 5, 6, 7, 8, 9, 10, 11, 12, 13, 14, 15, 16], [], [0, 1, 2, 3, 4, 5, 6, 7, 8, 9, 10, 11, 12, 13, 14, 15, 16], [], rfl, rfl, rfl, rfl, by decide, rfl, rfl⟩ ?_)
  have J4 : ∀ (v3 : Nat), v3 = (if (inB v (nI 0) (nI (N 2) - nI 1)) = true then if (inB q (nI 0) (nI 50000)) = true then 0 else 2 else 1) → g_G p l e rm_X7_promise s m args below meth c D A 4 0 0 Q (wM h cI cJ cZ th C N S Qk K P Y) [(0, .ref (h 0)), (1, .int v), (2, .int q)] 28 [.int (nI v3), .ref (h 0)] := by
    intro v3 ev3
    have bv3 : v3 < 2147483648 := by subst ev3; (repeat' split) <;> omega
    replace ev3 := ev3.trans (show _ = cI2 (N 2) v q (nI 0) (nI 50000) from rfl)
    obtain ⟨th5, eth5⟩ : ∃ z : Int32, z = nI v3 := ⟨_, rfl⟩
    refine g_put X (C := RX7) (T := TX7) (N := 21) (ws' := wM h cI cJ cZ th5 C N S Qk K P Y) inlX7 tyX7 tyX7_ok nmX7 0 rfl rfl 0 (Nat.le_of_ble_eq_true rfl) kF_X7_64 rfl rfl rfl (Nat.le_of_ble_eq_true rfl) dX7_promise_28 (by rw [eth5]; first | done | (rfl)) ?_
    refine g_aload_n X 0 dX7_promise_31 rfl rfl ?_
    refine g_get X (C := RX7) (T := TX7) (N := 21) (v := .int th5) inlX7 0 rfl rfl 0 (Nat.le_of_ble_eq_true rfl) kF_X7_64 rfl dX7_promise_32 ?_
    refine g_if_le X (tgt := 40) dX7_promise_35 (by decide) (fun h6 => ?_) (fun h6 => ?_)
    · --
      have hc0 : cI2 (N 2) v q (nI 0) (nI 50000) = 0 := le0_n (cI2_3 _ _ _ _ _) (by rw [← ev3, ← eth5]; assumption)
      obtain ⟨hvn, evn⟩ := inB_m (by omega) (cI2_0 hc0).1
      refine g_aload_n X 0 dX7_promise_40 rfl rfl ?_
      refine g_get X (C := RX7) (T := TX7) (N := 21) (v := .ref (h 13)) inlX7 0 rfl rfl 17 (Nat.le_of_ble_eq_true rfl) kF_X7_48 rfl dX7_promise_41 ?_
      refine g_iload_n X 1 dX7_promise_44 rfl rfl ?_
      refine g_iald X 13 rfl (nN v) evn (by omega) (Nat.le_of_ble_eq_true rfl) (v := C 9 (nN v)) rfl dX7_promise_45 ?_
      refine g_istore_n X [(3, .int (C 9 (nN v))), (0, .ref (h 0)), (1, .int v), (2, .int q)] dX7_promise_46 rfl (Nat.le_of_ble_eq_true rfl) rfl ?_
      refine g_aload_n X 1 dX7_promise_47 rfl rfl ?_
      refine g_get X (C := RX7) (T := TX7) (N := 21) (v := .ref (h 13)) inlX7 0 rfl rfl 17 (Nat.le_of_ble_eq_true rfl) kF_X7_48 rfl dX7_promise_48 ?_
      refine g_iload_n X 2 dX7_promise_51 rfl rfl ?_
      refine g_iload_n X 3 dX7_promise_52 rfl rfl ?_
      obtain ⟨C7, eC7⟩ : ∃ z : Cf, z = c2 C 9 (nN v) q := ⟨_, rfl⟩
      refine g_iast X (ws' := wM h cI cJ cZ th5 C7 N S Qk K P Y) 13 rfl (nN v) evn (by omega) (Nat.le_of_ble_eq_true rfl) dX7_promise_53 (by rw [eC7]; first | done | (rfl)) ?_
      refine g_iload_n X 0 dX7_promise_54 rfl rfl ?_
      refine g_iret X hr hlk hQ dX7_promise_55 ?_
      show g_eq _ _ _ _
      try rw [eC7]
      try rw [eth5]
      try rw [ev3]
      refine ⟨?_, ?_⟩ <;> repeat rw [if_pos hc0]
    · --
      have hc1 : ¬ cI2 (N 2) v q (nI 0) (nI 50000) = 0 := fun z => absurd (show th5 ≤ 0 by rw [eth5, ev3, z]; decide) (by assumption)
      refine g_iconst X (v := nI 0) dX7_promise_38 (by decide +kernel) ?_
      refine g_iret X hr hlk hQ dX7_promise_39 ?_
      show g_eq _ _ _ _
      try rw [eth5]
      try rw [ev3]
      refine ⟨?_, ?_⟩ <;> repeat rw [if_neg hc1]
  refine g_bI_ne X (tgt := 13) dX7_promise_6 (by decide) (fun h1 => ?_) (fun h1 => ?_)
  · --
    refine g_iload_n X 2 dX7_promise_13 rfl rfl ?_
    refine g_iconst X (v := nI 0) dX7_promise_14 (by decide +kernel) ?_
    refine g_ldc X kN_X7_95 dX7_promise_15 (v' := nI 50000) (by decide +kernel) ?_
    refine g_callS X (As := [.int q, .int (nI 0), .int (nI 50000)]) (rest := [.ref (h 0)]) (m_X7_in l D cI cJ cZ q (nI 0) (nI 50000) ) kM_X7_68 kT_yX7_in kZ_RX7 kC_yX7_in hV_X7_in rfl rfl rfl ⟨Nat.le_of_ble_eq_true rfl, Nat.le_of_ble_eq_true rfl⟩ ⟨Nat.le_of_ble_eq_true rfl, Nat.le_of_ble_eq_true rfl⟩ (Nat.le_of_ble_eq_true rfl) dX7_promise_17 rfl [] rfl rfl (g_kk1 (w2 := wM h cI cJ cZ th C N S Qk K P Y) ⟨[], [0, 1, 2, 3, 4, 5, 6, 7, 8, 9, 10, 11, 12, 13, 14, 15, 16], [0, 1, 2, 3, 4, 5, 6, 7, 8, 9, 10, 11, 12, 13, 14, 15, 16], ([0, 1, 2, 3, 4, 5, 6, 7, 8, 9, 10, 11, 12, 13, 14, 15, 16].filterMap fun i => (wM h cI cJ cZ th C N S Qk K P Y)[i]?), rfl, rfl, rfl, rfl, by decide, rfl, rfl⟩ ?_)
    refine g_bI_ne X (tgt := 27) dX7_promise_20 (by decide) (fun h2 => ?_) (fun h2 => ?_)
    · --
      refine g_iconst X (v := nI 0) dX7_promise_27 (by decide +kernel) ?_
      exact J4 _ (by rw [if_pos (c := (inB v (nI 0) (nI (N 2) - nI 1)) = true) h1, if_pos (c := (inB q (nI 0) (nI 50000)) = true) h2])
    · --
      refine g_iconst X (v := nI 2) dX7_promise_23 (by decide +kernel) ?_
      refine g_goto X (tgt := 28) dX7_promise_24 (by decide) ?_
      exact J4 _ (by rw [if_pos (c := (inB v (nI 0) (nI (N 2) - nI 1)) = true) h1, if_neg (c := (inB q (nI 0) (nI 50000)) = true) (by rw [h2]; decide)])
  · --
    refine g_iconst X (v := nI 1) dX7_promise_9 (by decide +kernel) ?_
    refine g_goto X (tgt := 28) dX7_promise_10 (by decide) ?_
    exact J4 _ (by rw [if_neg (c := (inB v (nI 0) (nI (N 2) - nI 1)) = true) (by rw [h1]; decide)])
def cW1 (C : Cf) (n : Nat) (v : Int32) : Nat := if inB v (nI 0) (nI n - nI 1) = true then (if C 3 (nN v) = 0 then 0 else 2) else 1
theorem cW1_3 (C : Cf) (n : Nat) (v : Int32) : cW1 C n v < 1000 := by unfold cW1; (repeat' split) <;> omega
theorem cW1_0 {C : Cf} {n : Nat} {v : Int32} (h : cW1 C n v = 0) : inB v (nI 0) (nI n - nI 1) = true ∧ C 3 (nN v) = 0 := by
  unfold cW1 at h
  by_cases h1 : inB v (nI 0) (nI n - nI 1) = true
  · rw [if_pos h1] at h
    by_cases h2 : C 3 (nN v) = 0
    · exact ⟨h1, h2⟩
    · rw [if_neg h2] at h
      exact absurd h (by decide)
  · rw [if_neg h1] at h
    exact absurd h (by decide)
def cT2 (S : St) (v q : Int32) : Nat := if inB v (nI 0) (nI 11) = true then (if inB q (nI 1) (nI 100000) = true then (if ¬ S 0 (nN v) = 0 then 0 else 3) else 2) else 1
theorem cT2_3 (S : St) (v q : Int32) : cT2 S v q < 1000 := by unfold cT2; (repeat' split) <;> omega
theorem cT2_0 {S : St} {v q : Int32} (h : cT2 S v q = 0) : inB v (nI 0) (nI 11) = true := by
  unfold cT2 at h
  by_cases h1 : inB v (nI 0) (nI 11) = true
  · exact h1
  · rw [if_neg h1] at h
    exact absurd h (by decide)

theorem hV_X7_clean : yX7_clean.cls = RX7 ∧ yX7_clean.cls ≠ "java/lang/invoke/MethodHandle" ∧ yX7_clean.cls ≠ "java/lang/invoke/VarHandle" ∧ (parseMethodDescriptor yX7_clean.desc).map (fun d => d.parameters.length) = some 1 := by decide +kernel
abbrev rm_X7_clean : Room := { frames := 2, cells := 0, slots := 0, locals := 43 }
set_option maxRecDepth 100000 in
set_option maxHeartbeats 4000000 in
theorem m_X7_clean (l : Launch) (D : va_G) (cI cJ cZ : ClassId) (h : Nat → Nat) (th : Int32) (C : Cf) (N : Nat → Nat) (S : St) (Qk K P : Nat → Int64) (Y : St) (v : Int32) (hC : Cok C N) : g_Ct l D cI cJ cZ yX7_clean cX7_clean 3 (some .int) rm_X7_clean 0 0 [.ref (h 0), .int v] (wM h cI cJ cZ th C N S Qk K P Y) (g_eq (some (.int (if cW1 C (N 0) v = 0 then (S 4 (nN v)).toInt32 else nI 0))) (wM h cI cJ cZ (nI (cW1 C (N 0) v)) C N (if cW1 C (N 0) v = 0 then u2 S 4 (nN v) 0 else S) Qk K P Y)) := by
  refine g_body RX7 [(0, .ref (h 0)), (1, .int v)] kH_X7 rfl (Nat.le_of_ble_eq_true rfl) rfl ?_
  intro p e s m args below meth c A X hr hlk hmn Q hQ
  have hN0 := hC.n0
  have hN1 := hC.n1
  have hN2 := hC.n2
  refine g_aload_n X 0 dX7_clean_0 rfl rfl ?_
  refine g_aload_n X 0 dX7_clean_1 rfl rfl ?_
  refine g_iload_n X 1 dX7_clean_2 rfl rfl ?_
  refine g_callV X (As := [.int v]) (rest := [.ref (h 0)]) (m_X7_isWell l D cI cJ cZ h th C N S Qk K P Y v ) kM_X7_101 kI_yX7_isWell kS_yX7_isWell kZ_RX7 kC_yX7_isWell hV_X7_isWell rfl rfl rfl 0 rfl (ci := 7) rfl ⟨Nat.le_of_ble_eq_true rfl, Nat.le_of_ble_eq_true rfl⟩ ⟨Nat.le_of_ble_eq_true rfl, Nat.le_of_ble_eq_true rfl⟩ (Nat.le_of_ble_eq_true rfl) dX7_clean_3 rfl [0, 1, 2, 3, 4, 5, 6, 7, 8, 9, 10, 11, 12, 13, 14, 15, 16] rfl rfl (g_kk1 (w2 := wM h cI cJ cZ th C N S Qk K P Y) ⟨[0, 1, 2, 3, 4, 5, 6, 7, 8, 9, 10, 11, 12, 13, 14, 15, 16], [], [0, 1, 2, 3, 4, 5, 6, 7, 8, 9, 10, 11, 12, 13, 14, 15, 16], [], rfl, rfl, rfl, rfl, by decide, rfl, rfl⟩ ?_)
  have J4 : ∀ (v3 : Nat), v3 = (if (inB v (nI 0) (nI (N 0) - nI 1)) = true then if (C 3 (nN v)) = 0 then 0 else 2 else 1) → g_G p l e rm_X7_clean s m args below meth c D A 3 0 0 Q (wM h cI cJ cZ th C N S Qk K P Y) [(0, .ref (h 0)), (1, .int v)] 27 [.int (nI v3), .ref (h 0)] := by
    intro v3 ev3
    have bv3 : v3 < 2147483648 := by subst ev3; (repeat' split) <;> omega
    replace ev3 := ev3.trans (show _ = cW1 C (N 0) v from rfl)
    obtain ⟨th5, eth5⟩ : ∃ z : Int32, z = nI v3 := ⟨_, rfl⟩
    refine g_put X (C := RX7) (T := TX7) (N := 21) (ws' := wM h cI cJ cZ th5 C N S Qk K P Y) inlX7 tyX7 tyX7_ok nmX7 0 rfl rfl 0 (Nat.le_of_ble_eq_true rfl) kF_X7_64 rfl rfl rfl (Nat.le_of_ble_eq_true rfl) dX7_clean_27 (by rw [eth5]; first | done | (rfl)) ?_
    refine g_aload_n X 0 dX7_clean_30 rfl rfl ?_
    refine g_get X (C := RX7) (T := TX7) (N := 21) (v := .int th5) inlX7 0 rfl rfl 0 (Nat.le_of_ble_eq_true rfl) kF_X7_64 rfl dX7_clean_31 ?_
    refine g_if_le X (tgt := 39) dX7_clean_34 (by decide) (fun h6 => ?_) (fun h6 => ?_)
    · --
      have hc0 : cW1 C (N 0) v = 0 := le0_n (cW1_3 _ _ _) (by rw [← ev3, ← eth5]; assumption)
      obtain ⟨hvn, evn⟩ := inB_m (by omega) (cW1_0 hc0).1
      refine g_aload_n X 0 dX7_clean_39 rfl rfl ?_
      refine g_get X (C := RX7) (T := TX7) (N := 21) (v := .ref (h 1)) inlX7 0 rfl rfl 1 (Nat.le_of_ble_eq_true rfl) kF_X7_7 rfl dX7_clean_40 ?_
      refine g_bipush X (v := nI 48) dX7_clean_43 (by decide +kernel) ?_
      refine g_iload_n X 1 dX7_clean_45 rfl rfl ?_
      refine g_iadd X (v := nI (nN v + 48)) dX7_clean_46 ((congrArg (nI 48 + ·) evn).trans ((nI_add _ _).trans (congrArg nI (by omega)))) ?_
      refine g_lald X 1 rfl (48 + (nN v)) (congrArg nI (show nN v + 48 = 48 + (nN v) by omega)) (by omega) (Nat.le_of_ble_eq_true rfl) (v := S 4 (nN v)) (fl_4 _ _ (i := nN v) (by omega)) dX7_clean_47 ?_
      refine g_l2i X (v := (S 4 (nN v)).toInt32) dX7_clean_48 rfl ?_
      refine g_istore_n X [(2, .int ((S 4 (nN v)).toInt32)), (0, .ref (h 0)), (1, .int v)] dX7_clean_49 rfl (Nat.le_of_ble_eq_true rfl) rfl ?_
      refine g_aload_n X 1 dX7_clean_50 rfl rfl ?_
      refine g_get X (C := RX7) (T := TX7) (N := 21) (v := .ref (h 1)) inlX7 0 rfl rfl 1 (Nat.le_of_ble_eq_true rfl) kF_X7_7 rfl dX7_clean_51 ?_
      refine g_bipush X (v := nI 48) dX7_clean_54 (by decide +kernel) ?_
      refine g_iload_n X 2 dX7_clean_56 rfl rfl ?_
      refine g_iadd X (v := nI (nN v + 48)) dX7_clean_57 ((congrArg (nI 48 + ·) evn).trans ((nI_add _ _).trans (congrArg nI (by omega)))) ?_
      refine g_lconst X (v := 0) dX7_clean_58 (by decide +kernel) ?_
      obtain ⟨S7, eS7⟩ : ∃ z : St, z = u2 S 4 (nN v) (0 : Int64) := ⟨_, rfl⟩
      refine g_last X (ws' := wM h cI cJ cZ th5 C N S7 Qk K P Y) 1 rfl (48 + (nN v)) (congrArg nI (show nN v + 48 = 48 + (nN v) by omega)) (by omega) (Nat.le_of_ble_eq_true rfl) dX7_clean_59 (by rw [eS7]; first | done | (rw [flu_4 _ _ (i := nN v) _ (by omega)]; rfl)) ?_
      refine g_iload_n X 0 dX7_clean_60 rfl rfl ?_
      refine g_iret X hr hlk hQ dX7_clean_61 ?_
      show g_eq _ _ _ _
      try rw [eS7]
      try rw [eth5]
      try rw [ev3]
      refine ⟨?_, ?_⟩ <;> repeat rw [if_pos hc0]
    · --
      have hc1 : ¬ cW1 C (N 0) v = 0 := fun z => absurd (show th5 ≤ 0 by rw [eth5, ev3, z]; decide) (by assumption)
      refine g_iconst X (v := nI 0) dX7_clean_37 (by decide +kernel) ?_
      refine g_iret X hr hlk hQ dX7_clean_38 ?_
      show g_eq _ _ _ _
      try rw [eth5]
      try rw [ev3]
      refine ⟨?_, ?_⟩ <;> repeat rw [if_neg hc1]
  refine g_bI_ne X (tgt := 13) dX7_clean_6 (by decide) (fun h1 => ?_) (fun h1 => ?_)
  · --
    obtain ⟨hvn, evn⟩ := inB_m (v := v) (n := N 0) (by omega) (by assumption)
    refine g_aload_n X 0 dX7_clean_13 rfl rfl ?_
    refine g_get X (C := RX7) (T := TX7) (N := 21) (v := .ref (h 6)) inlX7 0 rfl rfl 8 (Nat.le_of_ble_eq_true rfl) kF_X7_26 rfl dX7_clean_14 ?_
    refine g_iload_n X 1 dX7_clean_17 rfl rfl ?_
    refine g_zald X 6 rfl (nN v) evn (by omega) (Nat.le_of_ble_eq_true rfl) (v := C 3 (nN v)) rfl dX7_clean_18 ?_
    refine g_if_eq X (tgt := 26) dX7_clean_19 (by decide) (fun h2 => ?_) (fun h2 => ?_)
    · --
      refine g_iconst X (v := nI 0) dX7_clean_26 (by decide +kernel) ?_
      exact J4 _ (by rw [if_pos (c := (inB v (nI 0) (nI (N 0) - nI 1)) = true) h1, if_pos (c := (C 3 (nN v)) = 0) h2])
    · --
      refine g_iconst X (v := nI 2) dX7_clean_22 (by decide +kernel) ?_
      refine g_goto X (tgt := 27) dX7_clean_23 (by decide) ?_
      exact J4 _ (by rw [if_pos (c := (inB v (nI 0) (nI (N 0) - nI 1)) = true) h1, if_neg (c := (C 3 (nN v)) = 0) h2])
  · --
    refine g_iconst X (v := nI 1) dX7_clean_9 (by decide +kernel) ?_
    refine g_goto X (tgt := 27) dX7_clean_10 (by decide) ?_
    exact J4 _ (by rw [if_neg (c := (inB v (nI 0) (nI (N 0) - nI 1)) = true) (by rw [h1]; decide)])
theorem hV_X7_tracer : yX7_tracer.cls = RX7 ∧ yX7_tracer.cls ≠ "java/lang/invoke/MethodHandle" ∧ yX7_tracer.cls ≠ "java/lang/invoke/VarHandle" ∧ (parseMethodDescriptor yX7_tracer.desc).map (fun d => d.parameters.length) = some 2 := by decide +kernel
abbrev rm_X7_tracer : Room := { frames := 2, cells := 0, slots := 0, locals := 42 }
set_option maxRecDepth 100000 in
set_option maxHeartbeats 4000000 in
theorem m_X7_tracer (l : Launch) (D : va_G) (cI cJ cZ : ClassId) (h : Nat → Nat) (th : Int32) (C : Cf) (N : Nat → Nat) (S : St) (Qk K P : Nat → Int64) (Y : St) (v q : Int32)  : g_Ct l D cI cJ cZ yX7_tracer cX7_tracer 3 (some .long) rm_X7_tracer 0 0 [.ref (h 0), .int v, .int q] (wM h cI cJ cZ th C N S Qk K P Y) (g_eq (some (.long (if cT2 S v q = 0 then S 2 (nN v) + q.toInt64 else 0))) (wM h cI cJ cZ (nI (cT2 S v q)) C N (if cT2 S v q = 0 then u2 S 2 (nN v) (S 2 (nN v) + q.toInt64) else S) Qk K P Y)) := by
  refine g_body RX7 [(0, .ref (h 0)), (1, .int v), (2, .int q)] kH_X7 rfl (Nat.le_of_ble_eq_true rfl) rfl ?_
  intro p e s m args below meth c A X hr hlk hmn Q hQ
  refine g_aload_n X 0 dX7_tracer_0 rfl rfl ?_
  refine g_iload_n X 1 dX7_tracer_1 rfl rfl ?_
  refine g_callS X (As := [.int v]) (rest := [.ref (h 0)]) (m_X7_isBlock l D cI cJ cZ v ) kM_X7_91 kT_yX7_isBlock kZ_RX7 kC_yX7_isBlock hV_X7_isBlock rfl rfl rfl ⟨Nat.le_of_ble_eq_true rfl, Nat.le_of_ble_eq_true rfl⟩ ⟨Nat.le_of_ble_eq_true rfl, Nat.le_of_ble_eq_true rfl⟩ (Nat.le_of_ble_eq_true rfl) dX7_tracer_2 rfl [] rfl rfl (g_kk1 (w2 := wM h cI cJ cZ th C N S Qk K P Y) ⟨[], [0, 1, 2, 3, 4, 5, 6, 7, 8, 9, 10, 11, 12, 13, 14, 15, 16], [0, 1, 2, 3, 4, 5, 6, 7, 8, 9, 10, 11, 12, 13, 14, 15, 16], ([0, 1, 2, 3, 4, 5, 6, 7, 8, 9, 10, 11, 12, 13, 14, 15, 16].filterMap fun i => (wM h cI cJ cZ th C N S Qk K P Y)[i]?), rfl, rfl, rfl, rfl, by decide, rfl, rfl⟩ ?_)
  have J5 : ∀ (v4 : Nat), v4 = (if (inB v (nI 0) (nI 11)) = true then if (inB q (nI 1) (nI 100000)) = true then if ¬ (S 0 (nN v)) = (0 : Int64) then 0 else 3 else 2 else 1) → g_G p l e rm_X7_tracer s m args below meth c D A 3 0 0 Q (wM h cI cJ cZ th C N S Qk K P Y) [(0, .ref (h 0)), (1, .int v), (2, .int q)] 44 [.int (nI v4), .ref (h 0)] := by
    intro v4 ev4
    have bv4 : v4 < 2147483648 := by subst ev4; (repeat' split) <;> omega
    replace ev4 := ev4.trans (show _ = cT2 S v q from rfl)
    obtain ⟨th6, eth6⟩ : ∃ z : Int32, z = nI v4 := ⟨_, rfl⟩
    refine g_put X (C := RX7) (T := TX7) (N := 21) (ws' := wM h cI cJ cZ th6 C N S Qk K P Y) inlX7 tyX7 tyX7_ok nmX7 0 rfl rfl 0 (Nat.le_of_ble_eq_true rfl) kF_X7_64 rfl rfl rfl (Nat.le_of_ble_eq_true rfl) dX7_tracer_44 (by rw [eth6]; first | done | (rfl)) ?_
    refine g_aload_n X 0 dX7_tracer_47 rfl rfl ?_
    refine g_get X (C := RX7) (T := TX7) (N := 21) (v := .int th6) inlX7 0 rfl rfl 0 (Nat.le_of_ble_eq_true rfl) kF_X7_64 rfl dX7_tracer_48 ?_
    refine g_if_le X (tgt := 56) dX7_tracer_51 (by decide) (fun h7 => ?_) (fun h7 => ?_)
    · --
      have hc0 : cT2 S v q = 0 := le0_n (cT2_3 _ _ _) (by rw [← ev4, ← eth6]; assumption)
      obtain ⟨hvn, evn⟩ := inB_n (by decide) (cT2_0 hc0)
      refine g_aload_n X 0 dX7_tracer_56 rfl rfl ?_
      refine g_get X (C := RX7) (T := TX7) (N := 21) (v := .ref (h 1)) inlX7 0 rfl rfl 1 (Nat.le_of_ble_eq_true rfl) kF_X7_7 rfl dX7_tracer_57 ?_
      refine g_bipush X (v := nI 24) dX7_tracer_60 (by decide +kernel) ?_
      refine g_iload_n X 1 dX7_tracer_62 rfl rfl ?_
      refine g_iadd X (v := nI (nN v + 24)) dX7_tracer_63 ((congrArg (nI 24 + ·) evn).trans ((nI_add _ _).trans (congrArg nI (by omega)))) ?_
      refine g_dup2_11 X dX7_tracer_64 rfl rfl ?_
      refine g_lald X 1 rfl (24 + (nN v)) (congrArg nI (show nN v + 24 = 24 + (nN v) by omega)) (by omega) (Nat.le_of_ble_eq_true rfl) (v := S 2 (nN v)) (fl_2 _ _ (i := nN v) (by omega)) dX7_tracer_65 ?_
      refine g_iload_n X 2 dX7_tracer_66 rfl rfl ?_
      refine g_i2l X (v := q.toInt64) dX7_tracer_67 rfl ?_
      refine g_ladd X (v := (S 2 (nN v)) + q.toInt64) dX7_tracer_68 rfl ?_
      obtain ⟨S8, eS8⟩ : ∃ z : St, z = u2 S 2 (nN v) ((S 2 (nN v)) + q.toInt64) := ⟨_, rfl⟩
      refine g_last X (ws' := wM h cI cJ cZ th6 C N S8 Qk K P Y) 1 rfl (24 + (nN v)) (congrArg nI (show nN v + 24 = 24 + (nN v) by omega)) (by omega) (Nat.le_of_ble_eq_true rfl) dX7_tracer_69 (by rw [eS8]; first | done | (rw [flu_2 _ _ (i := nN v) _ (by omega)]; rfl)) ?_
      refine g_aload_n X 0 dX7_tracer_70 rfl rfl ?_
      refine g_get X (C := RX7) (T := TX7) (N := 21) (v := .ref (h 1)) inlX7 0 rfl rfl 1 (Nat.le_of_ble_eq_true rfl) kF_X7_7 rfl dX7_tracer_71 ?_
      refine g_bipush X (v := nI 24) dX7_tracer_74 (by decide +kernel) ?_
      refine g_iload_n X 1 dX7_tracer_76 rfl rfl ?_
      refine g_iadd X (v := nI (nN v + 24)) dX7_tracer_77 ((congrArg (nI 24 + ·) evn).trans ((nI_add _ _).trans (congrArg nI (by omega)))) ?_
      refine g_lald X 1 rfl (24 + (nN v)) (congrArg nI (show nN v + 24 = 24 + (nN v) by omega)) (by omega) (Nat.le_of_ble_eq_true rfl) (v := S 2 (nN v) + q.toInt64) ((fl_2 _ _ (i := nN v) (by omega)).trans (by rw [eS8]; exact u2_same _ _ _ _)) dX7_tracer_78 ?_
      refine g_lret X hr hlk hQ dX7_tracer_79 ?_
      show g_eq _ _ _ _
      try rw [eS8]
      try rw [eth6]
      try rw [ev4]
      refine ⟨?_, ?_⟩ <;> repeat rw [if_pos hc0]
    · --
      have hc1 : ¬ cT2 S v q = 0 := fun z => absurd (show th6 ≤ 0 by rw [eth6, ev4, z]; decide) (by assumption)
      refine g_lconst X (v := 0) dX7_tracer_54 (by decide +kernel) ?_
      refine g_lret X hr hlk hQ dX7_tracer_55 ?_
      show g_eq _ _ _ _
      try rw [eth6]
      try rw [ev4]
      refine ⟨?_, ?_⟩ <;> repeat rw [if_neg hc1]
  refine g_bI_ne X (tgt := 12) dX7_tracer_5 (by decide) (fun h1 => ?_) (fun h1 => ?_)
  · --
    obtain ⟨hvn, evn⟩ := inB_n (v := v) (n := 11) (by decide) (by assumption)
    refine g_iload_n X 2 dX7_tracer_12 rfl rfl ?_
    refine g_iconst X (v := nI 1) dX7_tracer_13 (by decide +kernel) ?_
    refine g_ldc X kN_X7_110 dX7_tracer_14 (v' := nI 100000) (by decide +kernel) ?_
    refine g_callS X (As := [.int q, .int (nI 1), .int (nI 100000)]) (rest := [.ref (h 0)]) (m_X7_in l D cI cJ cZ q (nI 1) (nI 100000) ) kM_X7_68 kT_yX7_in kZ_RX7 kC_yX7_in hV_X7_in rfl rfl rfl ⟨Nat.le_of_ble_eq_true rfl, Nat.le_of_ble_eq_true rfl⟩ ⟨Nat.le_of_ble_eq_true rfl, Nat.le_of_ble_eq_true rfl⟩ (Nat.le_of_ble_eq_true rfl) dX7_tracer_16 rfl [] rfl rfl (g_kk1 (w2 := wM h cI cJ cZ th C N S Qk K P Y) ⟨[], [0, 1, 2, 3, 4, 5, 6, 7, 8, 9, 10, 11, 12, 13, 14, 15, 16], [0, 1, 2, 3, 4, 5, 6, 7, 8, 9, 10, 11, 12, 13, 14, 15, 16], ([0, 1, 2, 3, 4, 5, 6, 7, 8, 9, 10, 11, 12, 13, 14, 15, 16].filterMap fun i => (wM h cI cJ cZ th C N S Qk K P Y)[i]?), rfl, rfl, rfl, rfl, by decide, rfl, rfl⟩ ?_)
    refine g_bI_ne X (tgt := 26) dX7_tracer_19 (by decide) (fun h2 => ?_) (fun h2 => ?_)
    · --
      refine g_aload_n X 0 dX7_tracer_26 rfl rfl ?_
      refine g_get X (C := RX7) (T := TX7) (N := 21) (v := .ref (h 1)) inlX7 0 rfl rfl 1 (Nat.le_of_ble_eq_true rfl) kF_X7_7 rfl dX7_tracer_27 ?_
      refine g_iconst X (v := nI 0) dX7_tracer_30 (by decide +kernel) ?_
      refine g_iload_n X 1 dX7_tracer_31 rfl rfl ?_
      refine g_iadd X (v := nI (nN v + 0)) dX7_tracer_32 ((congrArg (nI 0 + ·) evn).trans ((nI_add _ _).trans (congrArg nI (by omega)))) ?_
      refine g_lald X 1 rfl (0 + (nN v)) (congrArg nI (show nN v + 0 = 0 + (nN v) by omega)) (by omega) (Nat.le_of_ble_eq_true rfl) (v := S 0 (nN v)) (fl_0 _ _ (i := nN v) (by omega)) dX7_tracer_33 ?_
      refine g_lconst X (v := 0) dX7_tracer_34 (by decide +kernel) ?_
      refine g_lj_ne X (tgt := 43) (pc1 := 36) dX7_tracer_35 rfl dX7_tracer_36 (by decide) (fun h3 => ?_) (fun h3 => ?_)
      · --
        refine g_iconst X (v := nI 0) dX7_tracer_43 (by decide +kernel) ?_
        exact J5 _ (by rw [if_pos (c := (inB v (nI 0) (nI 11)) = true) h1, if_pos (c := (inB q (nI 1) (nI 100000)) = true) h2, if_pos (c := ¬ (S 0 (nN v)) = (0 : Int64)) h3])
      · --
        refine g_iconst X (v := nI 3) dX7_tracer_39 (by decide +kernel) ?_
        refine g_goto X (tgt := 44) dX7_tracer_40 (by decide) ?_
        exact J5 _ (by rw [if_pos (c := (inB v (nI 0) (nI 11)) = true) h1, if_pos (c := (inB q (nI 1) (nI 100000)) = true) h2, if_neg (c := ¬ (S 0 (nN v)) = (0 : Int64)) (fun z => z h3)])
    · --
      refine g_iconst X (v := nI 2) dX7_tracer_22 (by decide +kernel) ?_
      refine g_goto X (tgt := 44) dX7_tracer_23 (by decide) ?_
      exact J5 _ (by rw [if_pos (c := (inB v (nI 0) (nI 11)) = true) h1, if_neg (c := (inB q (nI 1) (nI 100000)) = true) (by rw [h2]; decide)])
  · --
    refine g_iconst X (v := nI 1) dX7_tracer_8 (by decide +kernel) ?_
    refine g_goto X (tgt := 44) dX7_tracer_9 (by decide) ?_
    exact J5 _ (by rw [if_neg (c := (inB v (nI 0) (nI 11)) = true) (by rw [h1]; decide)])
def cS3 (n : Nat) (v q r : Int32) : Nat := if inB v (nI 0) (nI 11) = true then (if inB q (nI 0) (nI 50000) = false then 2 else if inB r (nI 0) (nI 50000) = true then (if ¬ n = 4 then 0 else 3) else 2) else 1
theorem cS3_3 (n : Nat) (v q r : Int32) : cS3 n v q r < 1000 := by unfold cS3; (repeat' split) <;> omega
theorem cS3_0 {n : Nat} {v q r : Int32} (h : cS3 n v q r = 0) : inB v (nI 0) (nI 11) = true ∧ ¬ n = 4 := by
  unfold cS3 at h
  by_cases h1 : inB v (nI 0) (nI 11) = true
  · rw [if_pos h1] at h
    by_cases h2 : inB q (nI 0) (nI 50000) = false
    · rw [if_pos h2] at h
      exact absurd h (by decide)
    · rw [if_neg h2] at h
      by_cases h3 : inB r (nI 0) (nI 50000) = true
      · rw [if_pos h3] at h
        by_cases h4 : ¬ n = 4
        · exact ⟨h1, h4⟩
        · rw [if_neg h4] at h
          exact absurd h (by decide)
      · rw [if_neg h3] at h
        exact absurd h (by decide)
  · rw [if_neg h1] at h
    exact absurd h (by decide)
def cL1 (n : Nat) (v : Int32) : Nat := if inB v (nI 0) (nI 11) = true then (if ¬ n = 10 then 0 else 2) else 1
theorem cL1_3 (n : Nat) (v : Int32) : cL1 n v < 1000 := by unfold cL1; (repeat' split) <;> omega
theorem cL1_0 {n : Nat} {v : Int32} (h : cL1 n v = 0) : inB v (nI 0) (nI 11) = true ∧ ¬ n = 10 := by
  unfold cL1 at h
  by_cases h1 : inB v (nI 0) (nI 11) = true
  · rw [if_pos h1] at h
    by_cases h4 : ¬ n = 10
    · exact ⟨h1, h4⟩
    · rw [if_neg h4] at h
      exact absurd h (by decide)
  · rw [if_neg h1] at h
    exact absurd h (by decide)

theorem hV_X7_spring : yX7_spring.cls = RX7 ∧ yX7_spring.cls ≠ "java/lang/invoke/MethodHandle" ∧ yX7_spring.cls ≠ "java/lang/invoke/VarHandle" ∧ (parseMethodDescriptor yX7_spring.desc).map (fun d => d.parameters.length) = some 3 := by decide +kernel
abbrev rm_X7_spring : Room := { frames := 2, cells := 0, slots := 0, locals := 42 }
set_option maxRecDepth 100000 in
set_option maxHeartbeats 4000000 in
theorem m_X7_spring (l : Launch) (D : va_G) (cI cJ cZ : ClassId) (h : Nat → Nat) (th : Int32) (C : Cf) (N : Nat → Nat) (S : St) (Qk K P : Nat → Int64) (Y : St) (v q r : Int32) (hC : Cok C N) : g_Ct l D cI cJ cZ yX7_spring cX7_spring 4 (some .int) rm_X7_spring 0 0 [.ref (h 0), .int v, .int q, .int r] (wM h cI cJ cZ th C N S Qk K P Y) (g_eq (some (.int (if cS3 (N 2) v q r = 0 then nI (N 2) else nI 0))) (wM h cI cJ cZ (nI (cS3 (N 2) v q r)) (if cS3 (N 2) v q r = 0 then c2 (c2 (c2 C 7 (N 2) v) 8 (N 2) q) 9 (N 2) r else C) (if cS3 (N 2) v q r = 0 then n2 N 2 (N 2 + 1) else N) S Qk K P Y)) := by
  refine g_body RX7 [(0, .ref (h 0)), (1, .int v), (2, .int q), (3, .int r)] kH_X7 rfl (Nat.le_of_ble_eq_true rfl) rfl ?_
  intro p e s m args below meth c A X hr hlk hmn Q hQ
  have hN0 := hC.n0
  have hN1 := hC.n1
  have hN2 := hC.n2
  refine g_aload_n X 0 dX7_spring_0 rfl rfl ?_
  refine g_iload_n X 1 dX7_spring_1 rfl rfl ?_
  refine g_callS X (As := [.int v]) (rest := [.ref (h 0)]) (m_X7_isBlock l D cI cJ cZ v ) kM_X7_91 kT_yX7_isBlock kZ_RX7 kC_yX7_isBlock hV_X7_isBlock rfl rfl rfl ⟨Nat.le_of_ble_eq_true rfl, Nat.le_of_ble_eq_true rfl⟩ ⟨Nat.le_of_ble_eq_true rfl, Nat.le_of_ble_eq_true rfl⟩ (Nat.le_of_ble_eq_true rfl) dX7_spring_2 rfl [] rfl rfl (g_kk1 (w2 := wM h cI cJ cZ th C N S Qk K P Y) ⟨[], [0, 1, 2, 3, 4, 5, 6, 7, 8, 9, 10, 11, 12, 13, 14, 15, 16], [0, 1, 2, 3, 4, 5, 6, 7, 8, 9, 10, 11, 12, 13, 14, 15, 16], ([0, 1, 2, 3, 4, 5, 6, 7, 8, 9, 10, 11, 12, 13, 14, 15, 16].filterMap fun i => (wM h cI cJ cZ th C N S Qk K P Y)[i]?), rfl, rfl, rfl, rfl, by decide, rfl, rfl⟩ ?_)
  have J6 : ∀ (v5 : Nat), v5 = (if (inB v (nI 0) (nI 11)) = true then if (inB q (nI 0) (nI 50000)) = false then 2 else if (inB r (nI 0) (nI 50000)) = true then if ¬ N 2 = 4 then 0 else 3 else 2 else 1) → g_G p l e rm_X7_spring s m args below meth c D A 4 0 0 Q (wM h cI cJ cZ th C N S Qk K P Y) [(0, .ref (h 0)), (1, .int v), (2, .int q), (3, .int r)] 49 [.int (nI v5), .ref (h 0)] := by
    intro v5 ev5
    have bv5 : v5 < 2147483648 := by subst ev5; (repeat' split) <;> omega
    replace ev5 := ev5.trans (show _ = cS3 (N 2) v q r from rfl)
    obtain ⟨th7, eth7⟩ : ∃ z : Int32, z = nI v5 := ⟨_, rfl⟩
    refine g_put X (C := RX7) (T := TX7) (N := 21) (ws' := wM h cI cJ cZ th7 C N S Qk K P Y) inlX7 tyX7 tyX7_ok nmX7 0 rfl rfl 0 (Nat.le_of_ble_eq_true rfl) kF_X7_64 rfl rfl rfl (Nat.le_of_ble_eq_true rfl) dX7_spring_49 (by rw [eth7]; first | done | (rfl)) ?_
    refine g_aload_n X 0 dX7_spring_52 rfl rfl ?_
    refine g_get X (C := RX7) (T := TX7) (N := 21) (v := .int th7) inlX7 0 rfl rfl 0 (Nat.le_of_ble_eq_true rfl) kF_X7_64 rfl dX7_spring_53 ?_
    refine g_if_le X (tgt := 61) dX7_spring_56 (by decide) (fun h8 => ?_) (fun h8 => ?_)
    · --
      have hc0 : cS3 (N 2) v q r = 0 := le0_n (cS3_3 _ _ _ _) (by rw [← ev5, ← eth7]; assumption)
      have hn4 := (cS3_0 hc0).2
      have hn3 : N 2 < 4 := by omega
      refine g_aload_n X 0 dX7_spring_61 rfl rfl ?_
      refine g_get X (C := RX7) (T := TX7) (N := 21) (v := .ref (h 11)) inlX7 0 rfl rfl 15 (Nat.le_of_ble_eq_true rfl) kF_X7_42 rfl dX7_spring_62 ?_
      refine g_aload_n X 0 dX7_spring_65 rfl rfl ?_
      refine g_get X (C := RX7) (T := TX7) (N := 21) (v := .int (nI (N 2))) inlX7 0 rfl rfl 14 (Nat.le_of_ble_eq_true rfl) kF_X7_75 rfl dX7_spring_66 ?_
      refine g_iload_n X 1 dX7_spring_69 rfl rfl ?_
      obtain ⟨C9, eC9⟩ : ∃ z : Cf, z = c2 C 7 (N 2) v := ⟨_, rfl⟩
      refine g_iast X (ws' := wM h cI cJ cZ th7 C9 N S Qk K P Y) 11 rfl (N 2) rfl (by omega) (Nat.le_of_ble_eq_true rfl) dX7_spring_70 (by rw [eC9]; first | done | (rfl)) ?_
      refine g_aload_n X 0 dX7_spring_71 rfl rfl ?_
      refine g_get X (C := RX7) (T := TX7) (N := 21) (v := .ref (h 12)) inlX7 0 rfl rfl 16 (Nat.le_of_ble_eq_true rfl) kF_X7_45 rfl dX7_spring_72 ?_
      refine g_aload_n X 0 dX7_spring_75 rfl rfl ?_
      refine g_get X (C := RX7) (T := TX7) (N := 21) (v := .int (nI (N 2))) inlX7 0 rfl rfl 14 (Nat.le_of_ble_eq_true rfl) kF_X7_75 rfl dX7_spring_76 ?_
      refine g_iload_n X 2 dX7_spring_79 rfl rfl ?_
      obtain ⟨C10, eC10⟩ : ∃ z : Cf, z = c2 C9 8 (N 2) q := ⟨_, rfl⟩
      refine g_iast X (ws' := wM h cI cJ cZ th7 C10 N S Qk K P Y) 12 rfl (N 2) rfl (by omega) (Nat.le_of_ble_eq_true rfl) dX7_spring_80 (by rw [eC10]; first | done | (rfl)) ?_
      refine g_aload_n X 0 dX7_spring_81 rfl rfl ?_
      refine g_get X (C := RX7) (T := TX7) (N := 21) (v := .ref (h 13)) inlX7 0 rfl rfl 17 (Nat.le_of_ble_eq_true rfl) kF_X7_48 rfl dX7_spring_82 ?_
      refine g_aload_n X 0 dX7_spring_85 rfl rfl ?_
      refine g_get X (C := RX7) (T := TX7) (N := 21) (v := .int (nI (N 2))) inlX7 0 rfl rfl 14 (Nat.le_of_ble_eq_true rfl) kF_X7_75 rfl dX7_spring_86 ?_
      refine g_iload_n X 3 dX7_spring_89 rfl rfl ?_
      obtain ⟨C11, eC11⟩ : ∃ z : Cf, z = c2 C10 9 (N 2) r := ⟨_, rfl⟩
      refine g_iast X (ws' := wM h cI cJ cZ th7 C11 N S Qk K P Y) 13 rfl (N 2) rfl (by omega) (Nat.le_of_ble_eq_true rfl) dX7_spring_90 (by rw [eC11]; first | done | (rfl)) ?_
      refine g_aload_n X 0 dX7_spring_91 rfl rfl ?_
      refine g_dup X dX7_spring_92 rfl ?_
      refine g_get X (C := RX7) (T := TX7) (N := 21) (v := .int (nI (N 2))) inlX7 0 rfl rfl 14 (Nat.le_of_ble_eq_true rfl) kF_X7_75 rfl dX7_spring_93 ?_
      refine g_iconst X (v := nI 1) dX7_spring_96 (by decide +kernel) ?_
      refine g_iadd X (v := nI (N 2 + 1)) dX7_spring_97 ((nI_add _ _).trans (congrArg nI (by omega))) ?_
      obtain ⟨N12, eN12⟩ : ∃ z : Nat → Nat, z = n2 N 2 (N 2 + 1) := ⟨_, rfl⟩
      refine g_put X (C := RX7) (T := TX7) (N := 21) (ws' := wM h cI cJ cZ th7 C11 N12 S Qk K P Y) inlX7 tyX7 tyX7_ok nmX7 0 rfl rfl 14 (Nat.le_of_ble_eq_true rfl) kF_X7_75 rfl rfl rfl (Nat.le_of_ble_eq_true rfl) dX7_spring_98 (by rw [eN12]; first | done | (rfl)) ?_
      refine g_aload_n X 0 dX7_spring_101 rfl rfl ?_
      refine g_get X (C := RX7) (T := TX7) (N := 21) (v := .int (nI (N 2 + 1))) inlX7 0 rfl rfl 14 (Nat.le_of_ble_eq_true rfl) kF_X7_75 (by rw [eN12]; rfl) dX7_spring_102 ?_
      refine g_iconst X (v := nI 1) dX7_spring_105 (by decide +kernel) ?_
      refine g_isub X (v := nI (N 2)) dX7_spring_106 (pk_sub (by omega)) ?_
      refine g_iret X hr hlk hQ dX7_spring_107 ?_
      show g_eq _ _ _ _
      try rw [eN12]
      try rw [eC11]
      try rw [eC10]
      try rw [eC9]
      try rw [eth7]
      try rw [ev5]
      refine ⟨?_, ?_⟩ <;> repeat rw [if_pos hc0]
    · --
      have hc1 : ¬ cS3 (N 2) v q r = 0 := fun z => absurd (show th7 ≤ 0 by rw [eth7, ev5, z]; decide) (by assumption)
      refine g_iconst X (v := nI 0) dX7_spring_59 (by decide +kernel) ?_
      refine g_iret X hr hlk hQ dX7_spring_60 ?_
      show g_eq _ _ _ _
      try rw [eth7]
      try rw [ev5]
      refine ⟨?_, ?_⟩ <;> repeat rw [if_neg hc1]
  refine g_bI_ne X (tgt := 12) dX7_spring_5 (by decide) (fun h1 => ?_) (fun h1 => ?_)
  · --
    refine g_iload_n X 2 dX7_spring_12 rfl rfl ?_
    refine g_iconst X (v := nI 0) dX7_spring_13 (by decide +kernel) ?_
    refine g_ldc X kN_X7_95 dX7_spring_14 (v' := nI 50000) (by decide +kernel) ?_
    refine g_callS X (As := [.int q, .int (nI 0), .int (nI 50000)]) (rest := [.ref (h 0)]) (m_X7_in l D cI cJ cZ q (nI 0) (nI 50000) ) kM_X7_68 kT_yX7_in kZ_RX7 kC_yX7_in hV_X7_in rfl rfl rfl ⟨Nat.le_of_ble_eq_true rfl, Nat.le_of_ble_eq_true rfl⟩ ⟨Nat.le_of_ble_eq_true rfl, Nat.le_of_ble_eq_true rfl⟩ (Nat.le_of_ble_eq_true rfl) dX7_spring_16 rfl [] rfl rfl (g_kk1 (w2 := wM h cI cJ cZ th C N S Qk K P Y) ⟨[], [0, 1, 2, 3, 4, 5, 6, 7, 8, 9, 10, 11, 12, 13, 14, 15, 16], [0, 1, 2, 3, 4, 5, 6, 7, 8, 9, 10, 11, 12, 13, 14, 15, 16], ([0, 1, 2, 3, 4, 5, 6, 7, 8, 9, 10, 11, 12, 13, 14, 15, 16].filterMap fun i => (wM h cI cJ cZ th C N S Qk K P Y)[i]?), rfl, rfl, rfl, rfl, by decide, rfl, rfl⟩ ?_)
    refine g_bI_eq X (tgt := 32) dX7_spring_19 (by decide) (fun h2 => ?_) (fun h2 => ?_)
    · --
      refine g_iconst X (v := nI 2) dX7_spring_32 (by decide +kernel) ?_
      refine g_goto X (tgt := 49) dX7_spring_33 (by decide) ?_
      exact J6 _ (by rw [if_pos (c := (inB v (nI 0) (nI 11)) = true) h1, if_pos (c := (inB q (nI 0) (nI 50000)) = false) h2])
    · --
      refine g_iload_n X 3 dX7_spring_22 rfl rfl ?_
      refine g_iconst X (v := nI 0) dX7_spring_23 (by decide +kernel) ?_
      refine g_ldc X kN_X7_95 dX7_spring_24 (v' := nI 50000) (by decide +kernel) ?_
      refine g_callS X (As := [.int r, .int (nI 0), .int (nI 50000)]) (rest := [.ref (h 0)]) (m_X7_in l D cI cJ cZ r (nI 0) (nI 50000) ) kM_X7_68 kT_yX7_in kZ_RX7 kC_yX7_in hV_X7_in rfl rfl rfl ⟨Nat.le_of_ble_eq_true rfl, Nat.le_of_ble_eq_true rfl⟩ ⟨Nat.le_of_ble_eq_true rfl, Nat.le_of_ble_eq_true rfl⟩ (Nat.le_of_ble_eq_true rfl) dX7_spring_26 rfl [] rfl rfl (g_kk1 (w2 := wM h cI cJ cZ th C N S Qk K P Y) ⟨[], [0, 1, 2, 3, 4, 5, 6, 7, 8, 9, 10, 11, 12, 13, 14, 15, 16], [0, 1, 2, 3, 4, 5, 6, 7, 8, 9, 10, 11, 12, 13, 14, 15, 16], ([0, 1, 2, 3, 4, 5, 6, 7, 8, 9, 10, 11, 12, 13, 14, 15, 16].filterMap fun i => (wM h cI cJ cZ th C N S Qk K P Y)[i]?), rfl, rfl, rfl, rfl, by decide, rfl, rfl⟩ ?_)
      refine g_bI_ne X (tgt := 36) dX7_spring_29 (by decide) (fun h3 => ?_) (fun h3 => ?_)
      · --
        refine g_aload_n X 0 dX7_spring_36 rfl rfl ?_
        refine g_get X (C := RX7) (T := TX7) (N := 21) (v := .int (nI (N 2))) inlX7 0 rfl rfl 14 (Nat.le_of_ble_eq_true rfl) kF_X7_75 rfl dX7_spring_37 ?_
        refine g_iconst X (v := nI 4) dX7_spring_40 (by decide +kernel) ?_
        refine g_icN_ne X (a := N 2) (b := 4) (tgt := 48) (by omega) (by omega) dX7_spring_41 (by decide) (fun h4 => ?_) (fun h4 => ?_)
        · --
          refine g_iconst X (v := nI 0) dX7_spring_48 (by decide +kernel) ?_
          exact J6 _ (by rw [if_pos (c := (inB v (nI 0) (nI 11)) = true) h1, if_neg (c := (inB q (nI 0) (nI 50000)) = false) (by rw [h2]; decide), if_pos (c := (inB r (nI 0) (nI 50000)) = true) h3, if_pos (c := ¬ N 2 = 4) h4])
        · --
          refine g_iconst X (v := nI 3) dX7_spring_44 (by decide +kernel) ?_
          refine g_goto X (tgt := 49) dX7_spring_45 (by decide) ?_
          exact J6 _ (by rw [if_pos (c := (inB v (nI 0) (nI 11)) = true) h1, if_neg (c := (inB q (nI 0) (nI 50000)) = false) (by rw [h2]; decide), if_pos (c := (inB r (nI 0) (nI 50000)) = true) h3, if_neg (c := ¬ N 2 = 4) (fun z => z h4)])
      · --
        refine g_iconst X (v := nI 2) dX7_spring_32 (by decide +kernel) ?_
        refine g_goto X (tgt := 49) dX7_spring_33 (by decide) ?_
        exact J6 _ (by rw [if_pos (c := (inB v (nI 0) (nI 11)) = true) h1, if_neg (c := (inB q (nI 0) (nI 50000)) = false) (by rw [h2]; decide), if_neg (c := (inB r (nI 0) (nI 50000)) = true) (by rw [h3]; decide)])
  · --
    refine g_iconst X (v := nI 1) dX7_spring_8 (by decide +kernel) ?_
    refine g_goto X (tgt := 49) dX7_spring_9 (by decide) ?_
    exact J6 _ (by rw [if_neg (c := (inB v (nI 0) (nI 11)) = true) (by rw [h1]; decide)])
theorem hV_X7_well : yX7_well.cls = RX7 ∧ yX7_well.cls ≠ "java/lang/invoke/MethodHandle" ∧ yX7_well.cls ≠ "java/lang/invoke/VarHandle" ∧ (parseMethodDescriptor yX7_well.desc).map (fun d => d.parameters.length) = some 2 := by decide +kernel
abbrev rm_X7_well : Room := { frames := 2, cells := 0, slots := 0, locals := 42 }
set_option maxRecDepth 100000 in
set_option maxHeartbeats 4000000 in
theorem m_X7_well (l : Launch) (D : va_G) (cI cJ cZ : ClassId) (h : Nat → Nat) (th : Int32) (C : Cf) (N : Nat → Nat) (S : St) (Qk K P : Nat → Int64) (Y : St) (v : Int32) (r : Bool) (hC : Cok C N) : g_Ct l D cI cJ cZ yX7_well cX7_well 3 (some .int) rm_X7_well 0 0 [.ref (h 0), .int v, .int (bI (r))] (wM h cI cJ cZ th C N S Qk K P Y) (g_eq (some (.int (if cL1 (N 0) v = 0 then nI (N 0) else nI 0))) (wM h cI cJ cZ (nI (cL1 (N 0) v)) (if cL1 (N 0) v = 0 then c2 (c2 C 2 (N 0) v) 3 (N 0) (bI r) else C) (if cL1 (N 0) v = 0 then n2 N 0 (N 0 + 1) else N) (if cL1 (N 0) v = 0 then u2 S 8 (N 0) (-1) else S) Qk K P Y)) := by
  refine g_body RX7 [(0, .ref (h 0)), (1, .int v), (2, .int (bI (r)))] kH_X7 rfl (Nat.le_of_ble_eq_true rfl) rfl ?_
  intro p e s m args below meth c A X hr hlk hmn Q hQ
  have hN0 := hC.n0
  have hN1 := hC.n1
  have hN2 := hC.n2
  refine g_aload_n X 0 dX7_well_0 rfl rfl ?_
  refine g_iload_n X 1 dX7_well_1 rfl rfl ?_
  refine g_callS X (As := [.int v]) (rest := [.ref (h 0)]) (m_X7_isBlock l D cI cJ cZ v ) kM_X7_91 kT_yX7_isBlock kZ_RX7 kC_yX7_isBlock hV_X7_isBlock rfl rfl rfl ⟨Nat.le_of_ble_eq_true rfl, Nat.le_of_ble_eq_true rfl⟩ ⟨Nat.le_of_ble_eq_true rfl, Nat.le_of_ble_eq_true rfl⟩ (Nat.le_of_ble_eq_true rfl) dX7_well_2 rfl [] rfl rfl (g_kk1 (w2 := wM h cI cJ cZ th C N S Qk K P Y) ⟨[], [0, 1, 2, 3, 4, 5, 6, 7, 8, 9, 10, 11, 12, 13, 14, 15, 16], [0, 1, 2, 3, 4, 5, 6, 7, 8, 9, 10, 11, 12, 13, 14, 15, 16], ([0, 1, 2, 3, 4, 5, 6, 7, 8, 9, 10, 11, 12, 13, 14, 15, 16].filterMap fun i => (wM h cI cJ cZ th C N S Qk K P Y)[i]?), rfl, rfl, rfl, rfl, by decide, rfl, rfl⟩ ?_)
  have J4 : ∀ (v3 : Nat), v3 = (if (inB v (nI 0) (nI 11)) = true then if ¬ N 0 = 10 then 0 else 2 else 1) → g_G p l e rm_X7_well s m args below meth c D A 3 0 0 Q (wM h cI cJ cZ th C N S Qk K P Y) [(0, .ref (h 0)), (1, .int v), (2, .int (bI (r)))] 26 [.int (nI v3), .ref (h 0)] := by
    intro v3 ev3
    have bv3 : v3 < 2147483648 := by subst ev3; (repeat' split) <;> omega
    replace ev3 := ev3.trans (show _ = cL1 (N 0) v from rfl)
    obtain ⟨th5, eth5⟩ : ∃ z : Int32, z = nI v3 := ⟨_, rfl⟩
    refine g_put X (C := RX7) (T := TX7) (N := 21) (ws' := wM h cI cJ cZ th5 C N S Qk K P Y) inlX7 tyX7 tyX7_ok nmX7 0 rfl rfl 0 (Nat.le_of_ble_eq_true rfl) kF_X7_64 rfl rfl rfl (Nat.le_of_ble_eq_true rfl) dX7_well_26 (by rw [eth5]; first | done | (rfl)) ?_
    refine g_aload_n X 0 dX7_well_29 rfl rfl ?_
    refine g_get X (C := RX7) (T := TX7) (N := 21) (v := .int th5) inlX7 0 rfl rfl 0 (Nat.le_of_ble_eq_true rfl) kF_X7_64 rfl dX7_well_30 ?_
    refine g_if_le X (tgt := 38) dX7_well_33 (by decide) (fun h6 => ?_) (fun h6 => ?_)
    · --
      have hc0 : cL1 (N 0) v = 0 := le0_n (cL1_3 _ _) (by rw [← ev3, ← eth5]; assumption)
      have hn4 := (cL1_0 hc0).2
      have hn3 : N 0 < 10 := by omega
      refine g_aload_n X 0 dX7_well_38 rfl rfl ?_
      refine g_get X (C := RX7) (T := TX7) (N := 21) (v := .ref (h 5)) inlX7 0 rfl rfl 7 (Nat.le_of_ble_eq_true rfl) kF_X7_23 rfl dX7_well_39 ?_
      refine g_aload_n X 0 dX7_well_42 rfl rfl ?_
      refine g_get X (C := RX7) (T := TX7) (N := 21) (v := .int (nI (N 0))) inlX7 0 rfl rfl 6 (Nat.le_of_ble_eq_true rfl) kF_X7_72 rfl dX7_well_43 ?_
      refine g_iload_n X 1 dX7_well_46 rfl rfl ?_
      obtain ⟨C7, eC7⟩ : ∃ z : Cf, z = c2 C 2 (N 0) v := ⟨_, rfl⟩
      refine g_iast X (ws' := wM h cI cJ cZ th5 C7 N S Qk K P Y) 5 rfl (N 0) rfl (by omega) (Nat.le_of_ble_eq_true rfl) dX7_well_47 (by rw [eC7]; first | done | (rfl)) ?_
      refine g_aload_n X 0 dX7_well_48 rfl rfl ?_
      refine g_get X (C := RX7) (T := TX7) (N := 21) (v := .ref (h 6)) inlX7 0 rfl rfl 8 (Nat.le_of_ble_eq_true rfl) kF_X7_26 rfl dX7_well_49 ?_
      refine g_aload_n X 0 dX7_well_52 rfl rfl ?_
      refine g_get X (C := RX7) (T := TX7) (N := 21) (v := .int (nI (N 0))) inlX7 0 rfl rfl 6 (Nat.le_of_ble_eq_true rfl) kF_X7_72 rfl dX7_well_53 ?_
      refine g_iload_n X 2 dX7_well_56 rfl rfl ?_
      obtain ⟨C8, eC8⟩ : ∃ z : Cf, z = c2 C7 3 (N 0) (bI (r)) := ⟨_, rfl⟩
      refine g_zast X (ws' := wM h cI cJ cZ th5 C8 N S Qk K P Y) 6 rfl (N 0) rfl (by omega) (Nat.le_of_ble_eq_true rfl) dX7_well_57 (by rw [eC8]; first | done | (rw [bI_vp _]; rfl)) ?_
      refine g_aload_n X 0 dX7_well_58 rfl rfl ?_
      refine g_get X (C := RX7) (T := TX7) (N := 21) (v := .ref (h 1)) inlX7 0 rfl rfl 1 (Nat.le_of_ble_eq_true rfl) kF_X7_7 rfl dX7_well_59 ?_
      refine g_bipush X (v := nI 88) dX7_well_62 (by decide +kernel) ?_
      refine g_aload_n X 0 dX7_well_64 rfl rfl ?_
      refine g_get X (C := RX7) (T := TX7) (N := 21) (v := .int (nI (N 0))) inlX7 0 rfl rfl 6 (Nat.le_of_ble_eq_true rfl) kF_X7_72 rfl dX7_well_65 ?_
      refine g_iadd X (v := nI (N 0 + 88)) dX7_well_68 ((nI_add _ _).trans (congrArg nI (by omega))) ?_
      refine g_ldc2 X kL_X7_99 dX7_well_69 ?_
      obtain ⟨S9, eS9⟩ : ∃ z : St, z = u2 S 8 (N 0) (-1 : Int64) := ⟨_, rfl⟩
      refine g_last X (ws' := wM h cI cJ cZ th5 C8 N S9 Qk K P Y) 1 rfl (88 + (N 0)) (congrArg nI (show N 0 + 88 = 88 + (N 0) by omega)) (by omega) (Nat.le_of_ble_eq_true rfl) dX7_well_72 (by rw [eS9]; first | done | (rw [flu_8 _ _ (i := N 0) _ (by omega)]; rfl)) ?_
      refine g_aload_n X 0 dX7_well_73 rfl rfl ?_
      refine g_dup X dX7_well_74 rfl ?_
      refine g_get X (C := RX7) (T := TX7) (N := 21) (v := .int (nI (N 0))) inlX7 0 rfl rfl 6 (Nat.le_of_ble_eq_true rfl) kF_X7_72 rfl dX7_well_75 ?_
      refine g_iconst X (v := nI 1) dX7_well_78 (by decide +kernel) ?_
      refine g_iadd X (v := nI (N 0 + 1)) dX7_well_79 ((nI_add _ _).trans (congrArg nI (by omega))) ?_
      obtain ⟨N10, eN10⟩ : ∃ z : Nat → Nat, z = n2 N 0 (N 0 + 1) := ⟨_, rfl⟩
      refine g_put X (C := RX7) (T := TX7) (N := 21) (ws' := wM h cI cJ cZ th5 C8 N10 S9 Qk K P Y) inlX7 tyX7 tyX7_ok nmX7 0 rfl rfl 6 (Nat.le_of_ble_eq_true rfl) kF_X7_72 rfl rfl rfl (Nat.le_of_ble_eq_true rfl) dX7_well_80 (by rw [eN10]; first | done | (rfl)) ?_
      refine g_aload_n X 0 dX7_well_83 rfl rfl ?_
      refine g_get X (C := RX7) (T := TX7) (N := 21) (v := .int (nI (N 0 + 1))) inlX7 0 rfl rfl 6 (Nat.le_of_ble_eq_true rfl) kF_X7_72 (by rw [eN10]; rfl) dX7_well_84 ?_
      refine g_iconst X (v := nI 1) dX7_well_87 (by decide +kernel) ?_
      refine g_isub X (v := nI (N 0)) dX7_well_88 (pk_sub (by omega)) ?_
      refine g_iret X hr hlk hQ dX7_well_89 ?_
      show g_eq _ _ _ _
      try rw [eN10]
      try rw [eS9]
      try rw [eC8]
      try rw [eC7]
      try rw [eth5]
      try rw [ev3]
      refine ⟨?_, ?_⟩ <;> repeat rw [if_pos hc0]
    · --
      have hc1 : ¬ cL1 (N 0) v = 0 := fun z => absurd (show th5 ≤ 0 by rw [eth5, ev3, z]; decide) (by assumption)
      refine g_iconst X (v := nI 0) dX7_well_36 (by decide +kernel) ?_
      refine g_iret X hr hlk hQ dX7_well_37 ?_
      show g_eq _ _ _ _
      try rw [eth5]
      try rw [ev3]
      refine ⟨?_, ?_⟩ <;> repeat rw [if_neg hc1]
  refine g_bI_ne X (tgt := 12) dX7_well_5 (by decide) (fun h1 => ?_) (fun h1 => ?_)
  · --
    refine g_aload_n X 0 dX7_well_12 rfl rfl ?_
    refine g_get X (C := RX7) (T := TX7) (N := 21) (v := .int (nI (N 0))) inlX7 0 rfl rfl 6 (Nat.le_of_ble_eq_true rfl) kF_X7_72 rfl dX7_well_13 ?_
    refine g_bipush X (v := nI 10) dX7_well_16 (by decide +kernel) ?_
    refine g_icN_ne X (a := N 0) (b := 10) (tgt := 25) (by omega) (by omega) dX7_well_18 (by decide) (fun h2 => ?_) (fun h2 => ?_)
    · --
      refine g_iconst X (v := nI 0) dX7_well_25 (by decide +kernel) ?_
      exact J4 _ (by rw [if_pos (c := (inB v (nI 0) (nI 11)) = true) h1, if_pos (c := ¬ N 0 = 10) h2])
    · --
      refine g_iconst X (v := nI 2) dX7_well_21 (by decide +kernel) ?_
      refine g_goto X (tgt := 26) dX7_well_22 (by decide) ?_
      exact J4 _ (by rw [if_pos (c := (inB v (nI 0) (nI 11)) = true) h1, if_neg (c := ¬ N 0 = 10) (fun z => z h2)])
  · --
    refine g_iconst X (v := nI 1) dX7_well_8 (by decide +kernel) ?_
    refine g_goto X (tgt := 26) dX7_well_9 (by decide) ?_
    exact J4 _ (by rw [if_neg (c := (inB v (nI 0) (nI 11)) = true) (by rw [h1]; decide)])
def cB3 (S : St) (v q r : Int32) : Nat := if inB v (nI 0) (nI 11) = true then (if inB q (nI 0) (nI 50000) = false then 2 else if inB r (nI 0) (nI 350) = true then (if S 13 0 ≤ 0 then 0 else 3) else 2) else 1
theorem cB3_3 (S : St) (v q r : Int32) : cB3 S v q r < 1000 := by unfold cB3; (repeat' split) <;> omega
theorem cB3_0 {S : St} {v q r : Int32} (h : cB3 S v q r = 0) : inB v (nI 0) (nI 11) = true := by
  unfold cB3 at h
  by_cases h1 : inB v (nI 0) (nI 11) = true
  · exact h1
  · rw [if_neg h1] at h
    exact absurd h (by decide)
def cO2 (C : Cf) (n : Nat) (v q : Int32) : Nat := if inB v (nI 0) (nI n - nI 1) = true then (if C 3 (nN v) = 0 then (if inB q (nI 0) (nI 1000) = true then 0 else 2) else (if inB q (nI 0) (nI 10) = true then 0 else 2)) else 1
theorem cO2_3 (C : Cf) (n : Nat) (v q : Int32) : cO2 C n v q < 1000 := by unfold cO2; (repeat' split) <;> omega
theorem cO2_0 {C : Cf} {n : Nat} {v q : Int32} (h : cO2 C n v q = 0) : inB v (nI 0) (nI n - nI 1) = true := by
  unfold cO2 at h
  by_cases h1 : inB v (nI 0) (nI n - nI 1) = true
  · exact h1
  · rw [if_neg h1] at h
    exact absurd h (by decide)

theorem hV_X7_block : yX7_block.cls = RX7 ∧ yX7_block.cls ≠ "java/lang/invoke/MethodHandle" ∧ yX7_block.cls ≠ "java/lang/invoke/VarHandle" ∧ (parseMethodDescriptor yX7_block.desc).map (fun d => d.parameters.length) = some 3 := by decide +kernel
abbrev rm_X7_block : Room := { frames := 2, cells := 0, slots := 0, locals := 42 }
set_option maxRecDepth 100000 in
set_option maxHeartbeats 4000000 in
theorem m_X7_block (l : Launch) (D : va_G) (cI cJ cZ : ClassId) (h : Nat → Nat) (th : Int32) (C : Cf) (N : Nat → Nat) (S : St) (Qk K P : Nat → Int64) (Y : St) (v q r : Int32)  : g_Ct l D cI cJ cZ yX7_block cX7_block 5 (some .int) rm_X7_block 0 0 [.ref (h 0), .int v, .int q, .int r] (wM h cI cJ cZ th C N S Qk K P Y) (g_eq (some (.int (if cB3 S v q r = 0 then (S 0 (nN v)).toInt32 else nI 0))) (wM h cI cJ cZ (nI (cB3 S v q r)) C N (if cB3 S v q r = 0 then u2 (u2 S 0 (nN v) q.toInt64) 1 (nN v) (r.toInt64 * (q + nI 20000).toInt64) else S) Qk K P Y)) := by
  refine g_body RX7 [(0, .ref (h 0)), (1, .int v), (2, .int q), (3, .int r)] kH_X7 rfl (Nat.le_of_ble_eq_true rfl) rfl ?_
  intro p e s m args below meth c A X hr hlk hmn Q hQ
  refine g_aload_n X 0 dX7_block_0 rfl rfl ?_
  refine g_iload_n X 1 dX7_block_1 rfl rfl ?_
  refine g_callS X (As := [.int v]) (rest := [.ref (h 0)]) (m_X7_isBlock l D cI cJ cZ v ) kM_X7_91 kT_yX7_isBlock kZ_RX7 kC_yX7_isBlock hV_X7_isBlock rfl rfl rfl ⟨Nat.le_of_ble_eq_true rfl, Nat.le_of_ble_eq_true rfl⟩ ⟨Nat.le_of_ble_eq_true rfl, Nat.le_of_ble_eq_true rfl⟩ (Nat.le_of_ble_eq_true rfl) dX7_block_2 rfl [] rfl rfl (g_kk1 (w2 := wM h cI cJ cZ th C N S Qk K P Y) ⟨[], [0, 1, 2, 3, 4, 5, 6, 7, 8, 9, 10, 11, 12, 13, 14, 15, 16], [0, 1, 2, 3, 4, 5, 6, 7, 8, 9, 10, 11, 12, 13, 14, 15, 16], ([0, 1, 2, 3, 4, 5, 6, 7, 8, 9, 10, 11, 12, 13, 14, 15, 16].filterMap fun i => (wM h cI cJ cZ th C N S Qk K P Y)[i]?), rfl, rfl, rfl, rfl, by decide, rfl, rfl⟩ ?_)
  have J6 : ∀ (v5 : Nat), v5 = (if (inB v (nI 0) (nI 11)) = true then if (inB q (nI 0) (nI 50000)) = false then 2 else if (inB r (nI 0) (nI 350)) = true then if (S 13 0) ≤ (0 : Int64) then 0 else 3 else 2 else 1) → g_G p l e rm_X7_block s m args below meth c D A 5 0 0 Q (wM h cI cJ cZ th C N S Qk K P Y) [(0, .ref (h 0)), (1, .int v), (2, .int q), (3, .int r)] 55 [.int (nI v5), .ref (h 0)] := by
    intro v5 ev5
    have bv5 : v5 < 2147483648 := by subst ev5; (repeat' split) <;> omega
    replace ev5 := ev5.trans (show _ = cB3 S v q r from rfl)
    obtain ⟨th7, eth7⟩ : ∃ z : Int32, z = nI v5 := ⟨_, rfl⟩
    refine g_put X (C := RX7) (T := TX7) (N := 21) (ws' := wM h cI cJ cZ th7 C N S Qk K P Y) inlX7 tyX7 tyX7_ok nmX7 0 rfl rfl 0 (Nat.le_of_ble_eq_true rfl) kF_X7_64 rfl rfl rfl (Nat.le_of_ble_eq_true rfl) dX7_block_55 (by rw [eth7]; first | done | (rfl)) ?_
    refine g_aload_n X 0 dX7_block_58 rfl rfl ?_
    refine g_get X (C := RX7) (T := TX7) (N := 21) (v := .int th7) inlX7 0 rfl rfl 0 (Nat.le_of_ble_eq_true rfl) kF_X7_64 rfl dX7_block_59 ?_
    refine g_if_le X (tgt := 67) dX7_block_62 (by decide) (fun h8 => ?_) (fun h8 => ?_)
    · --
      have hc0 : cB3 S v q r = 0 := le0_n (cB3_3 _ _ _ _) (by rw [← ev5, ← eth7]; assumption)
      obtain ⟨hvn, evn⟩ := inB_n (by decide) (cB3_0 hc0)
      refine g_aload_n X 0 dX7_block_67 rfl rfl ?_
      refine g_get X (C := RX7) (T := TX7) (N := 21) (v := .ref (h 1)) inlX7 0 rfl rfl 1 (Nat.le_of_ble_eq_true rfl) kF_X7_7 rfl dX7_block_68 ?_
      refine g_iconst X (v := nI 0) dX7_block_71 (by decide +kernel) ?_
      refine g_iload_n X 1 dX7_block_72 rfl rfl ?_
      refine g_iadd X (v := nI (nN v + 0)) dX7_block_73 ((congrArg (nI 0 + ·) evn).trans ((nI_add _ _).trans (congrArg nI (by omega)))) ?_
      refine g_lald X 1 rfl (0 + (nN v)) (congrArg nI (show nN v + 0 = 0 + (nN v) by omega)) (by omega) (Nat.le_of_ble_eq_true rfl) (v := S 0 (nN v)) (fl_0 _ _ (i := nN v) (by omega)) dX7_block_74 ?_
      refine g_l2i X (v := (S 0 (nN v)).toInt32) dX7_block_75 rfl ?_
      refine g_istore X [(4, .int ((S 0 (nN v)).toInt32)), (0, .ref (h 0)), (1, .int v), (2, .int q), (3, .int r)] dX7_block_76 (Nat.le_of_ble_eq_true rfl) rfl ?_
      refine g_aload_n X 1 dX7_block_78 rfl rfl ?_
      refine g_get X (C := RX7) (T := TX7) (N := 21) (v := .ref (h 1)) inlX7 0 rfl rfl 1 (Nat.le_of_ble_eq_true rfl) kF_X7_7 rfl dX7_block_79 ?_
      refine g_iconst X (v := nI 0) dX7_block_82 (by decide +kernel) ?_
      refine g_iload_n X 2 dX7_block_83 rfl rfl ?_
      refine g_iadd X (v := nI (nN v + 0)) dX7_block_84 ((congrArg (nI 0 + ·) evn).trans ((nI_add _ _).trans (congrArg nI (by omega)))) ?_
      refine g_iload_n X 3 dX7_block_85 rfl rfl ?_
      refine g_i2l X (v := q.toInt64) dX7_block_86 rfl ?_
      obtain ⟨S9, eS9⟩ : ∃ z : St, z = u2 S 0 (nN v) q.toInt64 := ⟨_, rfl⟩
      refine g_last X (ws' := wM h cI cJ cZ th7 C N S9 Qk K P Y) 1 rfl (0 + (nN v)) (congrArg nI (show nN v + 0 = 0 + (nN v) by omega)) (by omega) (Nat.le_of_ble_eq_true rfl) dX7_block_87 (by rw [eS9]; first | done | (rw [flu_0 _ _ (i := nN v) _ (by omega)]; rfl)) ?_
      refine g_aload_n X 1 dX7_block_88 rfl rfl ?_
      refine g_get X (C := RX7) (T := TX7) (N := 21) (v := .ref (h 1)) inlX7 0 rfl rfl 1 (Nat.le_of_ble_eq_true rfl) kF_X7_7 rfl dX7_block_89 ?_
      refine g_bipush X (v := nI 12) dX7_block_92 (by decide +kernel) ?_
      refine g_iload_n X 2 dX7_block_94 rfl rfl ?_
      refine g_iadd X (v := nI (nN v + 12)) dX7_block_95 ((congrArg (nI 12 + ·) evn).trans ((nI_add _ _).trans (congrArg nI (by omega)))) ?_
      refine g_iload_n X 4 dX7_block_96 rfl rfl ?_
      refine g_i2l X (v := r.toInt64) dX7_block_97 rfl ?_
      refine g_iload_n X 3 dX7_block_98 rfl rfl ?_
      refine g_sipush X (v := nI 20000) dX7_block_99 (by decide +kernel) ?_
      refine g_iadd X (v := q + (nI 20000)) dX7_block_102 rfl ?_
      refine g_i2l X (v := (q + (nI 20000)).toInt64) dX7_block_103 rfl ?_
      refine g_lmul X (v := r.toInt64 * ((q + (nI 20000)).toInt64)) dX7_block_104 rfl ?_
      obtain ⟨S10, eS10⟩ : ∃ z : St, z = u2 S9 1 (nN v) (r.toInt64 * ((q + (nI 20000)).toInt64)) := ⟨_, rfl⟩
      refine g_last X (ws' := wM h cI cJ cZ th7 C N S10 Qk K P Y) 1 rfl (12 + (nN v)) (congrArg nI (show nN v + 12 = 12 + (nN v) by omega)) (by omega) (Nat.le_of_ble_eq_true rfl) dX7_block_105 (by rw [eS10]; first | done | (rw [flu_1 _ _ (i := nN v) _ (by omega)]; rfl)) ?_
      refine g_iload X 0 dX7_block_106 rfl ?_
      refine g_iret X hr hlk hQ dX7_block_108 ?_
      show g_eq _ _ _ _
      try rw [eS10]
      try rw [eS9]
      try rw [eth7]
      try rw [ev5]
      refine ⟨?_, ?_⟩ <;> repeat rw [if_pos hc0]
    · --
      have hc1 : ¬ cB3 S v q r = 0 := fun z => absurd (show th7 ≤ 0 by rw [eth7, ev5, z]; decide) (by assumption)
      refine g_iconst X (v := nI 0) dX7_block_65 (by decide +kernel) ?_
      refine g_iret X hr hlk hQ dX7_block_66 ?_
      show g_eq _ _ _ _
      try rw [eth7]
      try rw [ev5]
      refine ⟨?_, ?_⟩ <;> repeat rw [if_neg hc1]
  refine g_bI_ne X (tgt := 12) dX7_block_5 (by decide) (fun h1 => ?_) (fun h1 => ?_)
  · --
    refine g_iload_n X 2 dX7_block_12 rfl rfl ?_
    refine g_iconst X (v := nI 0) dX7_block_13 (by decide +kernel) ?_
    refine g_ldc X kN_X7_95 dX7_block_14 (v' := nI 50000) (by decide +kernel) ?_
    refine g_callS X (As := [.int q, .int (nI 0), .int (nI 50000)]) (rest := [.ref (h 0)]) (m_X7_in l D cI cJ cZ q (nI 0) (nI 50000) ) kM_X7_68 kT_yX7_in kZ_RX7 kC_yX7_in hV_X7_in rfl rfl rfl ⟨Nat.le_of_ble_eq_true rfl, Nat.le_of_ble_eq_true rfl⟩ ⟨Nat.le_of_ble_eq_true rfl, Nat.le_of_ble_eq_true rfl⟩ (Nat.le_of_ble_eq_true rfl) dX7_block_16 rfl [] rfl rfl (g_kk1 (w2 := wM h cI cJ cZ th C N S Qk K P Y) ⟨[], [0, 1, 2, 3, 4, 5, 6, 7, 8, 9, 10, 11, 12, 13, 14, 15, 16], [0, 1, 2, 3, 4, 5, 6, 7, 8, 9, 10, 11, 12, 13, 14, 15, 16], ([0, 1, 2, 3, 4, 5, 6, 7, 8, 9, 10, 11, 12, 13, 14, 15, 16].filterMap fun i => (wM h cI cJ cZ th C N S Qk K P Y)[i]?), rfl, rfl, rfl, rfl, by decide, rfl, rfl⟩ ?_)
    refine g_bI_eq X (tgt := 33) dX7_block_19 (by decide) (fun h2 => ?_) (fun h2 => ?_)
    · --
      refine g_iconst X (v := nI 2) dX7_block_33 (by decide +kernel) ?_
      refine g_goto X (tgt := 55) dX7_block_34 (by decide) ?_
      exact J6 _ (by rw [if_pos (c := (inB v (nI 0) (nI 11)) = true) h1, if_pos (c := (inB q (nI 0) (nI 50000)) = false) h2])
    · --
      refine g_iload_n X 3 dX7_block_22 rfl rfl ?_
      refine g_iconst X (v := nI 0) dX7_block_23 (by decide +kernel) ?_
      refine g_sipush X (v := nI 350) dX7_block_24 (by decide +kernel) ?_
      refine g_callS X (As := [.int r, .int (nI 0), .int (nI 350)]) (rest := [.ref (h 0)]) (m_X7_in l D cI cJ cZ r (nI 0) (nI 350) ) kM_X7_68 kT_yX7_in kZ_RX7 kC_yX7_in hV_X7_in rfl rfl rfl ⟨Nat.le_of_ble_eq_true rfl, Nat.le_of_ble_eq_true rfl⟩ ⟨Nat.le_of_ble_eq_true rfl, Nat.le_of_ble_eq_true rfl⟩ (Nat.le_of_ble_eq_true rfl) dX7_block_27 rfl [] rfl rfl (g_kk1 (w2 := wM h cI cJ cZ th C N S Qk K P Y) ⟨[], [0, 1, 2, 3, 4, 5, 6, 7, 8, 9, 10, 11, 12, 13, 14, 15, 16], [0, 1, 2, 3, 4, 5, 6, 7, 8, 9, 10, 11, 12, 13, 14, 15, 16], ([0, 1, 2, 3, 4, 5, 6, 7, 8, 9, 10, 11, 12, 13, 14, 15, 16].filterMap fun i => (wM h cI cJ cZ th C N S Qk K P Y)[i]?), rfl, rfl, rfl, rfl, by decide, rfl, rfl⟩ ?_)
      refine g_bI_ne X (tgt := 37) dX7_block_30 (by decide) (fun h3 => ?_) (fun h3 => ?_)
      · --
        refine g_aload_n X 0 dX7_block_37 rfl rfl ?_
        refine g_get X (C := RX7) (T := TX7) (N := 21) (v := .ref (h 1)) inlX7 0 rfl rfl 1 (Nat.le_of_ble_eq_true rfl) kF_X7_7 rfl dX7_block_38 ?_
        refine g_sipush X (v := nI 154) dX7_block_41 (by decide +kernel) ?_
        refine g_lald X 1 rfl (154 + 0) (congrArg nI (show 154 = 154 + 0 by omega)) (by omega) (Nat.le_of_ble_eq_true rfl) (v := S 13 0) (fl_13 _ _ (i := 0) (by omega)) dX7_block_44 ?_
        refine g_lconst X (v := 0) dX7_block_45 (by decide +kernel) ?_
        refine g_lj_le X (tgt := 54) (pc1 := 47) dX7_block_46 rfl dX7_block_47 (by decide) (fun h4 => ?_) (fun h4 => ?_)
        · --
          refine g_iconst X (v := nI 0) dX7_block_54 (by decide +kernel) ?_
          exact J6 _ (by rw [if_pos (c := (inB v (nI 0) (nI 11)) = true) h1, if_neg (c := (inB q (nI 0) (nI 50000)) = false) (by rw [h2]; decide), if_pos (c := (inB r (nI 0) (nI 350)) = true) h3, if_pos (c := (S 13 0) ≤ (0 : Int64)) h4])
        · --
          refine g_iconst X (v := nI 3) dX7_block_50 (by decide +kernel) ?_
          refine g_goto X (tgt := 55) dX7_block_51 (by decide) ?_
          exact J6 _ (by rw [if_pos (c := (inB v (nI 0) (nI 11)) = true) h1, if_neg (c := (inB q (nI 0) (nI 50000)) = false) (by rw [h2]; decide), if_pos (c := (inB r (nI 0) (nI 350)) = true) h3, if_neg (c := (S 13 0) ≤ (0 : Int64)) h4])
      · --
        refine g_iconst X (v := nI 2) dX7_block_33 (by decide +kernel) ?_
        refine g_goto X (tgt := 55) dX7_block_34 (by decide) ?_
        exact J6 _ (by rw [if_pos (c := (inB v (nI 0) (nI 11)) = true) h1, if_neg (c := (inB q (nI 0) (nI 50000)) = false) (by rw [h2]; decide), if_neg (c := (inB r (nI 0) (nI 350)) = true) (by rw [h3]; decide)])
  · --
    refine g_iconst X (v := nI 1) dX7_block_8 (by decide +kernel) ?_
    refine g_goto X (tgt := 55) dX7_block_9 (by decide) ?_
    exact J6 _ (by rw [if_neg (c := (inB v (nI 0) (nI 11)) = true) (by rw [h1]; decide)])
theorem hV_X7_open : yX7_open.cls = RX7 ∧ yX7_open.cls ≠ "java/lang/invoke/MethodHandle" ∧ yX7_open.cls ≠ "java/lang/invoke/VarHandle" ∧ (parseMethodDescriptor yX7_open.desc).map (fun d => d.parameters.length) = some 2 := by decide +kernel
abbrev rm_X7_open : Room := { frames := 2, cells := 0, slots := 0, locals := 43 }
set_option maxRecDepth 100000 in
set_option maxHeartbeats 4000000 in
theorem m_X7_open (l : Launch) (D : va_G) (cI cJ cZ : ClassId) (h : Nat → Nat) (th : Int32) (C : Cf) (N : Nat → Nat) (S : St) (Qk K P : Nat → Int64) (Y : St) (v q : Int32) (hC : Cok C N) : g_Ct l D cI cJ cZ yX7_open cX7_open 4 (some .int) rm_X7_open 0 0 [.ref (h 0), .int v, .int q] (wM h cI cJ cZ th C N S Qk K P Y) (g_eq (some (.int (if cO2 C (N 0) v q = 0 then C 4 (nN v) else nI 0))) (wM h cI cJ cZ (nI (cO2 C (N 0) v q)) (if cO2 C (N 0) v q = 0 then c2 C 4 (nN v) q else C) N S Qk K P Y)) := by
  refine g_body RX7 [(0, .ref (h 0)), (1, .int v), (2, .int q)] kH_X7 rfl (Nat.le_of_ble_eq_true rfl) rfl ?_
  intro p e s m args below meth c A X hr hlk hmn Q hQ
  have hN0 := hC.n0
  have hN1 := hC.n1
  have hN2 := hC.n2
  refine g_aload_n X 0 dX7_open_0 rfl rfl ?_
  refine g_aload_n X 0 dX7_open_1 rfl rfl ?_
  refine g_iload_n X 1 dX7_open_2 rfl rfl ?_
  refine g_callV X (As := [.int v]) (rest := [.ref (h 0)]) (m_X7_isWell l D cI cJ cZ h th C N S Qk K P Y v ) kM_X7_101 kI_yX7_isWell kS_yX7_isWell kZ_RX7 kC_yX7_isWell hV_X7_isWell rfl rfl rfl 0 rfl (ci := 7) rfl ⟨Nat.le_of_ble_eq_true rfl, Nat.le_of_ble_eq_true rfl⟩ ⟨Nat.le_of_ble_eq_true rfl, Nat.le_of_ble_eq_true rfl⟩ (Nat.le_of_ble_eq_true rfl) dX7_open_3 rfl [0, 1, 2, 3, 4, 5, 6, 7, 8, 9, 10, 11, 12, 13, 14, 15, 16] rfl rfl (g_kk1 (w2 := wM h cI cJ cZ th C N S Qk K P Y) ⟨[0, 1, 2, 3, 4, 5, 6, 7, 8, 9, 10, 11, 12, 13, 14, 15, 16], [], [0, 1, 2, 3, 4, 5, 6, 7, 8, 9, 10, 11, 12, 13, 14, 15, 16], [], rfl, rfl, rfl, rfl, by decide, rfl, rfl⟩ ?_)
  have J6 : ∀ (v5 : Nat), v5 = (if (inB v (nI 0) (nI (N 0) - nI 1)) = true then if (C 3 (nN v)) = 0 then if (inB q (nI 0) (nI 1000)) = true then 0 else 2 else if (inB q (nI 0) (nI 10)) = true then 0 else 2 else 1) → g_G p l e rm_X7_open s m args below meth c D A 4 0 0 Q (wM h cI cJ cZ th C N S Qk K P Y) [(0, .ref (h 0)), (1, .int v), (2, .int q)] 43 [.int (nI v5), .ref (h 0)] := by
    intro v5 ev5
    have bv5 : v5 < 2147483648 := by subst ev5; (repeat' split) <;> omega
    replace ev5 := ev5.trans (show _ = cO2 C (N 0) v q from rfl)
    obtain ⟨th7, eth7⟩ : ∃ z : Int32, z = nI v5 := ⟨_, rfl⟩
    refine g_put X (C := RX7) (T := TX7) (N := 21) (ws' := wM h cI cJ cZ th7 C N S Qk K P Y) inlX7 tyX7 tyX7_ok nmX7 0 rfl rfl 0 (Nat.le_of_ble_eq_true rfl) kF_X7_64 rfl rfl rfl (Nat.le_of_ble_eq_true rfl) dX7_open_43 (by rw [eth7]; first | done | (rfl)) ?_
    refine g_aload_n X 0 dX7_open_46 rfl rfl ?_
    refine g_get X (C := RX7) (T := TX7) (N := 21) (v := .int th7) inlX7 0 rfl rfl 0 (Nat.le_of_ble_eq_true rfl) kF_X7_64 rfl dX7_open_47 ?_
    refine g_if_le X (tgt := 55) dX7_open_50 (by decide) (fun h8 => ?_) (fun h8 => ?_)
    · --
      have hc0 : cO2 C (N 0) v q = 0 := le0_n (cO2_3 _ _ _ _) (by rw [← ev5, ← eth7]; assumption)
      obtain ⟨hvn, evn⟩ := inB_m (by omega) (cO2_0 hc0)
      refine g_aload_n X 0 dX7_open_55 rfl rfl ?_
      refine g_get X (C := RX7) (T := TX7) (N := 21) (v := .ref (h 7)) inlX7 0 rfl rfl 9 (Nat.le_of_ble_eq_true rfl) kF_X7_30 rfl dX7_open_56 ?_
      refine g_iload_n X 1 dX7_open_59 rfl rfl ?_
      refine g_iald X 7 rfl (nN v) evn (by omega) (Nat.le_of_ble_eq_true rfl) (v := C 4 (nN v)) rfl dX7_open_60 ?_
      refine g_istore_n X [(3, .int (C 4 (nN v))), (0, .ref (h 0)), (1, .int v), (2, .int q)] dX7_open_61 rfl (Nat.le_of_ble_eq_true rfl) rfl ?_
      refine g_aload_n X 1 dX7_open_62 rfl rfl ?_
      refine g_get X (C := RX7) (T := TX7) (N := 21) (v := .ref (h 7)) inlX7 0 rfl rfl 9 (Nat.le_of_ble_eq_true rfl) kF_X7_30 rfl dX7_open_63 ?_
      refine g_iload_n X 2 dX7_open_66 rfl rfl ?_
      refine g_iload_n X 3 dX7_open_67 rfl rfl ?_
      obtain ⟨C9, eC9⟩ : ∃ z : Cf, z = c2 C 4 (nN v) q := ⟨_, rfl⟩
      refine g_iast X (ws' := wM h cI cJ cZ th7 C9 N S Qk K P Y) 7 rfl (nN v) evn (by omega) (Nat.le_of_ble_eq_true rfl) dX7_open_68 (by rw [eC9]; first | done | (rfl)) ?_
      refine g_iload_n X 0 dX7_open_69 rfl rfl ?_
      refine g_iret X hr hlk hQ dX7_open_70 ?_
      show g_eq _ _ _ _
      try rw [eC9]
      try rw [eth7]
      try rw [ev5]
      refine ⟨?_, ?_⟩ <;> repeat rw [if_pos hc0]
    · --
      have hc1 : ¬ cO2 C (N 0) v q = 0 := fun z => absurd (show th7 ≤ 0 by rw [eth7, ev5, z]; decide) (by assumption)
      refine g_iconst X (v := nI 0) dX7_open_53 (by decide +kernel) ?_
      refine g_iret X hr hlk hQ dX7_open_54 ?_
      show g_eq _ _ _ _
      try rw [eth7]
      try rw [ev5]
      refine ⟨?_, ?_⟩ <;> repeat rw [if_neg hc1]
  refine g_bI_ne X (tgt := 13) dX7_open_6 (by decide) (fun h1 => ?_) (fun h1 => ?_)
  · --
    obtain ⟨hvn, evn⟩ := inB_m (v := v) (n := N 0) (by omega) (by assumption)
    refine g_iload_n X 2 dX7_open_13 rfl rfl ?_
    refine g_iconst X (v := nI 0) dX7_open_14 (by decide +kernel) ?_
    refine g_aload_n X 0 dX7_open_15 rfl rfl ?_
    refine g_get X (C := RX7) (T := TX7) (N := 21) (v := .ref (h 6)) inlX7 0 rfl rfl 8 (Nat.le_of_ble_eq_true rfl) kF_X7_26 rfl dX7_open_16 ?_
    refine g_iload_n X 1 dX7_open_19 rfl rfl ?_
    refine g_zald X 6 rfl (nN v) evn (by omega) (Nat.le_of_ble_eq_true rfl) (v := C 3 (nN v)) rfl dX7_open_20 ?_
    refine g_if_eq X (tgt := 29) dX7_open_21 (by decide) (fun h2 => ?_) (fun h2 => ?_)
    · --
      refine g_sipush X (v := nI 1000) dX7_open_29 (by decide +kernel) ?_
      refine g_callS X (As := [.int q, .int (nI 0), .int (nI 1000)]) (rest := [.ref (h 0)]) (m_X7_in l D cI cJ cZ q (nI 0) (nI 1000) ) kM_X7_68 kT_yX7_in kZ_RX7 kC_yX7_in hV_X7_in rfl rfl rfl ⟨Nat.le_of_ble_eq_true rfl, Nat.le_of_ble_eq_true rfl⟩ ⟨Nat.le_of_ble_eq_true rfl, Nat.le_of_ble_eq_true rfl⟩ (Nat.le_of_ble_eq_true rfl) dX7_open_32 rfl [] rfl rfl (g_kk1 (w2 := wM h cI cJ cZ th C N S Qk K P Y) ⟨[], [0, 1, 2, 3, 4, 5, 6, 7, 8, 9, 10, 11, 12, 13, 14, 15, 16], [0, 1, 2, 3, 4, 5, 6, 7, 8, 9, 10, 11, 12, 13, 14, 15, 16], ([0, 1, 2, 3, 4, 5, 6, 7, 8, 9, 10, 11, 12, 13, 14, 15, 16].filterMap fun i => (wM h cI cJ cZ th C N S Qk K P Y)[i]?), rfl, rfl, rfl, rfl, by decide, rfl, rfl⟩ ?_)
      refine g_bI_ne X (tgt := 42) dX7_open_35 (by decide) (fun h3 => ?_) (fun h3 => ?_)
      · --
        refine g_iconst X (v := nI 0) dX7_open_42 (by decide +kernel) ?_
        exact J6 _ (by rw [if_pos (c := (inB v (nI 0) (nI (N 0) - nI 1)) = true) h1, if_pos (c := (C 3 (nN v)) = 0) h2, if_pos (c := (inB q (nI 0) (nI 1000)) = true) h3])
      · --
        refine g_iconst X (v := nI 2) dX7_open_38 (by decide +kernel) ?_
        refine g_goto X (tgt := 43) dX7_open_39 (by decide) ?_
        exact J6 _ (by rw [if_pos (c := (inB v (nI 0) (nI (N 0) - nI 1)) = true) h1, if_pos (c := (C 3 (nN v)) = 0) h2, if_neg (c := (inB q (nI 0) (nI 1000)) = true) (by rw [h3]; decide)])
    · --
      refine g_bipush X (v := nI 10) dX7_open_24 (by decide +kernel) ?_
      refine g_goto X (tgt := 32) dX7_open_26 (by decide) ?_
      refine g_callS X (As := [.int q, .int (nI 0), .int (nI 10)]) (rest := [.ref (h 0)]) (m_X7_in l D cI cJ cZ q (nI 0) (nI 10) ) kM_X7_68 kT_yX7_in kZ_RX7 kC_yX7_in hV_X7_in rfl rfl rfl ⟨Nat.le_of_ble_eq_true rfl, Nat.le_of_ble_eq_true rfl⟩ ⟨Nat.le_of_ble_eq_true rfl, Nat.le_of_ble_eq_true rfl⟩ (Nat.le_of_ble_eq_true rfl) dX7_open_32 rfl [] rfl rfl (g_kk1 (w2 := wM h cI cJ cZ th C N S Qk K P Y) ⟨[], [0, 1, 2, 3, 4, 5, 6, 7, 8, 9, 10, 11, 12, 13, 14, 15, 16], [0, 1, 2, 3, 4, 5, 6, 7, 8, 9, 10, 11, 12, 13, 14, 15, 16], ([0, 1, 2, 3, 4, 5, 6, 7, 8, 9, 10, 11, 12, 13, 14, 15, 16].filterMap fun i => (wM h cI cJ cZ th C N S Qk K P Y)[i]?), rfl, rfl, rfl, rfl, by decide, rfl, rfl⟩ ?_)
      refine g_bI_ne X (tgt := 42) dX7_open_35 (by decide) (fun h4 => ?_) (fun h4 => ?_)
      · --
        refine g_iconst X (v := nI 0) dX7_open_42 (by decide +kernel) ?_
        exact J6 _ (by rw [if_pos (c := (inB v (nI 0) (nI (N 0) - nI 1)) = true) h1, if_neg (c := (C 3 (nN v)) = 0) h2, if_pos (c := (inB q (nI 0) (nI 10)) = true) h4])
      · --
        refine g_iconst X (v := nI 2) dX7_open_38 (by decide +kernel) ?_
        refine g_goto X (tgt := 43) dX7_open_39 (by decide) ?_
        exact J6 _ (by rw [if_pos (c := (inB v (nI 0) (nI (N 0) - nI 1)) = true) h1, if_neg (c := (C 3 (nN v)) = 0) h2, if_neg (c := (inB q (nI 0) (nI 10)) = true) (by rw [h4]; decide)])
  · --
    refine g_iconst X (v := nI 1) dX7_open_9 (by decide +kernel) ?_
    refine g_goto X (tgt := 43) dX7_open_10 (by decide) ?_
    exact J6 _ (by rw [if_neg (c := (inB v (nI 0) (nI (N 0) - nI 1)) = true) (by rw [h1]; decide)])
