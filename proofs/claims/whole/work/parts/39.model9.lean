/-! the reference's longer calls -/
def wMA (h : Nat → Nat) (cI cJ cZ : ClassId) (th : Int32) (C : Cf) (N : Nat → Nat) (Ra K P : Nat → Int64) (Y : St) : va_W := [(h 0, .inr (7, [.int th, .ref (h 1), .ref (h 2), .ref (h 3), .ref (h 4), .int (C 10 0), .int (nI (N 0)), .ref (h 5), .ref (h 6), .ref (h 7), .ref (h 8), .int (nI (N 1)), .ref (h 9), .ref (h 10), .int (nI (N 2)), .ref (h 11), .ref (h 12), .ref (h 13), .ref (h 14), .ref (h 15), .ref (h 16)])), (h 1, .inl (cJ, 336, .inr (.inl Ra))), (h 2, .inl (cJ, 336, .inr (.inl K))), (h 3, .inl (cI, 12, .inl (C 0))), (h 4, .inl (cI, 12, .inl (C 1))), (h 5, .inl (cI, 10, .inl (C 2))), (h 6, .inl (cZ, 10, .inl (C 3))), (h 7, .inl (cI, 10, .inl (C 4))), (h 8, .inl (cJ, 10, .inr (.inl P))), (h 9, .inl (cI, 6, .inl (C 5))), (h 10, .inl (cI, 6, .inl (C 6))), (h 11, .inl (cI, 4, .inl (C 7))), (h 12, .inl (cI, 4, .inl (C 8))), (h 13, .inl (cI, 4, .inl (C 9))), (h 14, .inl (cJ, 12, .inr (.inl (Y 0)))), (h 15, .inl (cJ, 12, .inr (.inl (Y 1)))), (h 16, .inl (cJ, 12, .inr (.inl (Y 2))))]
theorem nI_n0 {n : Nat} (hn : n < 1000) (h : ¬ n = 0) : ¬ nI n = 0 := fun e => h (by
  have e2 := congrArg Int32.toInt e
  rw [nI_toInt (by omega)] at e2
  have : (0 : Int32).toInt = 0 := rfl
  omega)
theorem inB_1 {v : Int32} {n : Nat} (h : inB v (nI 1) (nI n) = true) : inB v (nI 0) (nI n) = true := by
  unfold inB at h ⊢
  by_cases h1 : v < nI 1
  · rw [if_pos h1] at h
    exact absurd h (by decide)
  · rw [if_neg h1] at h
    rw [if_neg (fun z => h1 (Int32.lt_iff_toInt_lt.mpr (by
      have z2 := Int32.lt_iff_toInt_lt.mp z
      have e0 : (nI 0).toInt = 0 := by decide
      have e1 : (nI 1).toInt = 1 := by decide
      omega)))]
    exact h
def cK3 (v q r : Int32) : Nat := if inB v (nI 0) (nI 11) = false then 1 else if inB q (nI 0) (nI 11) = true then (if nbr (nN v) (nN q) = false then 2 else if inB r (nI 0) (nI 100) = true then 0 else 2) else 1
theorem cK3_3 (v q r : Int32) : cK3 v q r < 1000 := by unfold cK3; (repeat' split) <;> omega
theorem cK3_0 {v q r : Int32} (h : cK3 v q r = 0) : inB v (nI 0) (nI 11) = true ∧ inB q (nI 0) (nI 11) = true ∧ nbr (nN v) (nN q) = true ∧ inB r (nI 0) (nI 100) = true := by
  unfold cK3 at h
  by_cases h1 : inB v (nI 0) (nI 11) = false
  · rw [if_pos h1] at h
    exact absurd h (by decide)
  · rw [if_neg h1] at h
    by_cases h2 : inB q (nI 0) (nI 11) = true
    · rw [if_pos h2] at h
      by_cases h3 : nbr (nN v) (nN q) = false
      · rw [if_pos h3] at h
        exact absurd h (by decide)
      · rw [if_neg h3] at h
        by_cases h4 : inB r (nI 0) (nI 100) = true
        · exact ⟨by simpa using h1, h2, by simpa using h3, h4⟩
        · rw [if_neg h4] at h
          exact absurd h (by decide)
    · rw [if_neg h2] at h
      exact absurd h (by decide)
def loK (b o : Nat) : Nat := if o ≤ b then o else b
def bsK (b o : Nat) : Bool := if rgt b o = true then true else if rgt o b = false then false else true
def rdK (C : Cf) (b o : Nat) : Int32 := if bsK b o = false then C 1 (loK b o) else C 0 (loK b o)
def ckC (C : Cf) (b o : Nat) (r : Int32) : Cf := c2 (c2 C 0 (loK b o) (if bsK b o = false then C 0 (loK b o) else r)) 1 (loK b o) (if bsK b o = false then r else c2 C 0 (loK b o) (if bsK b o = false then C 0 (loK b o) else r) 1 (loK b o))

theorem hV_X7_crack : yX7_crack.cls = RX7 ∧ yX7_crack.cls ≠ "java/lang/invoke/MethodHandle" ∧ yX7_crack.cls ≠ "java/lang/invoke/VarHandle" ∧ (parseMethodDescriptor yX7_crack.desc).map (fun d => d.parameters.length) = some 3 := by decide +kernel
abbrev rm_X7_crack : Room := { frames := 2, cells := 0, slots := 0, locals := 42 }
set_option maxRecDepth 100000 in
set_option maxHeartbeats 4000000 in
theorem m_X7_crack (l : Launch) (D : va_G) (cI cJ cZ : ClassId) (h : Nat → Nat) (th : Int32) (C : Cf) (N : Nat → Nat) (S : St) (Qk K P : Nat → Int64) (Y : St) (v q r : Int32)  : g_Ct l D cI cJ cZ yX7_crack cX7_crack 7 (some .int) rm_X7_crack 0 0 [.ref (h 0), .int v, .int q, .int r] (wM h cI cJ cZ th C N S Qk K P Y) (g_eq (some (.int (if cK3 v q r = 0 then rdK C (nN v) (nN q) else nI 0))) (wM h cI cJ cZ (nI (cK3 v q r)) (if cK3 v q r = 0 then ckC C (nN v) (nN q) r else C) N S Qk K P Y)) := by
  refine g_body RX7 [(0, .ref (h 0)), (1, .int v), (2, .int q), (3, .int r)] kH_X7 rfl (Nat.le_of_ble_eq_true rfl) rfl ?_
  intro p e s m args below meth c A X hr hlk hmn Q hQ
  refine g_aload_n X 0 dX7_crack_0 rfl rfl ?_
  refine g_iload_n X 1 dX7_crack_1 rfl rfl ?_
  refine g_callS X (As := [.int v]) (rest := [.ref (h 0)]) (m_X7_isBlock l D cI cJ cZ v ) kM_X7_91 kT_yX7_isBlock kZ_RX7 kC_yX7_isBlock hV_X7_isBlock rfl rfl rfl ⟨Nat.le_of_ble_eq_true rfl, Nat.le_of_ble_eq_true rfl⟩ ⟨Nat.le_of_ble_eq_true rfl, Nat.le_of_ble_eq_true rfl⟩ (Nat.le_of_ble_eq_true rfl) dX7_crack_2 rfl [] rfl rfl (g_kk1 (w2 := wM h cI cJ cZ th C N S Qk K P Y) ⟨[], [0, 1, 2, 3, 4, 5, 6, 7, 8, 9, 10, 11, 12, 13, 14, 15, 16], [0, 1, 2, 3, 4, 5, 6, 7, 8, 9, 10, 11, 12, 13, 14, 15, 16], ([0, 1, 2, 3, 4, 5, 6, 7, 8, 9, 10, 11, 12, 13, 14, 15, 16].filterMap fun i => (wM h cI cJ cZ th C N S Qk K P Y)[i]?), rfl, rfl, rfl, rfl, by decide, rfl, rfl⟩ ?_)
  have J6 : ∀ (v5 : Nat), v5 = (if (inB v (nI 0) (nI 11)) = false then 1 else if (inB q (nI 0) (nI 11)) = true then if (nbr (nN v) (nN q)) = false then 2 else if (inB r (nI 0) (nI 100)) = true then 0 else 2 else 1) → g_G p l e rm_X7_crack s m args below meth c D A 7 0 0 Q (wM h cI cJ cZ th C N S Qk K P Y) [(0, .ref (h 0)), (1, .int v), (2, .int q), (3, .int r)] 42 [.int (nI v5), .ref (h 0)] := by
    intro v5 ev5
    have bv5 : v5 < 2147483648 := by subst ev5; (repeat' split) <;> omega
    replace ev5 := ev5.trans (show _ = cK3 v q r from rfl)
    obtain ⟨th7, eth7⟩ : ∃ z : Int32, z = nI v5 := ⟨_, rfl⟩
    refine g_put X (C := RX7) (T := TX7) (N := 21) (ws' := wM h cI cJ cZ th7 C N S Qk K P Y) inlX7 tyX7 tyX7_ok nmX7 0 rfl rfl 0 (Nat.le_of_ble_eq_true rfl) kF_X7_64 rfl rfl rfl (Nat.le_of_ble_eq_true rfl) dX7_crack_42 (by rw [eth7]; first | done | (rfl)) ?_
    refine g_aload_n X 0 dX7_crack_45 rfl rfl ?_
    refine g_get X (C := RX7) (T := TX7) (N := 21) (v := .int th7) inlX7 0 rfl rfl 0 (Nat.le_of_ble_eq_true rfl) kF_X7_64 rfl dX7_crack_46 ?_
    refine g_if_le X (tgt := 54) dX7_crack_49 (by decide) (fun h8 => ?_) (fun h8 => ?_)
    · --
      have hc0 : cK3 v q r = 0 := le0_n (cK3_3 _ _ _) (by rw [← ev5, ← eth7]; assumption)
      have hk0 := cK3_0 hc0
      obtain ⟨hvn, evn⟩ := inB_n (by decide) hk0.1
      obtain ⟨hqn, eqn⟩ := inB_n (by decide) hk0.2.1
      refine g_lvq (lv' := [(0, .ref (h 0)), (1, .int (nI (nN v))), (2, .int (nI (nN q))), (3, .int r)]) (by rw [← evn]; rw [← eqn]; first | done | rfl) ?_
      refine g_iload_n X 1 dX7_crack_54 rfl rfl ?_
      refine g_iload_n X 2 dX7_crack_55 rfl rfl ?_
      have J11 : ∀ (v10 : Nat), v10 = (if nN q ≤ nN v then nN q else nN v) → g_G p l e rm_X7_crack s m args below meth c D A 7 0 0 Q (wM h cI cJ cZ th7 C N S Qk K P Y) [(0, .ref (h 0)), (1, .int (nI (nN v))), (2, .int (nI (nN q))), (3, .int r)] 64 [.int (nI v10)] := by
        intro v10 ev10
        have bv10 : v10 < 2147483648 := by subst ev10; (repeat' split) <;> omega
        replace ev10 := ev10.trans (show _ = loK (nN v) (nN q) from rfl)
        have hlo : v10 < 12 := by rw [ev10]; unfold loK; split <;> omega
        refine g_istore X [(4, .int (nI v10)), (0, .ref (h 0)), (1, .int (nI (nN v))), (2, .int (nI (nN q))), (3, .int r)] dX7_crack_64 (Nat.le_of_ble_eq_true rfl) rfl ?_
        refine g_iload_n X 2 dX7_crack_66 rfl rfl ?_
        refine g_iload_n X 3 dX7_crack_67 rfl rfl ?_
        refine g_callS X (As := [.int (nI (nN v)), .int (nI (nN q))]) (rest := []) (m_X7_isRight l D cI cJ cZ (nN v) (nN q) hvn hqn) kM_X7_78 kT_yX7_isRight kZ_RX7 kC_yX7_isRight hV_X7_isRight rfl rfl rfl ⟨Nat.le_of_ble_eq_true rfl, Nat.le_of_ble_eq_true rfl⟩ ⟨Nat.le_of_ble_eq_true rfl, Nat.le_of_ble_eq_true rfl⟩ (Nat.le_of_ble_eq_true rfl) dX7_crack_68 rfl [] rfl rfl (g_kk1 (w2 := wM h cI cJ cZ th7 C N S Qk K P Y) ⟨[], [0, 1, 2, 3, 4, 5, 6, 7, 8, 9, 10, 11, 12, 13, 14, 15, 16], [0, 1, 2, 3, 4, 5, 6, 7, 8, 9, 10, 11, 12, 13, 14, 15, 16], ([0, 1, 2, 3, 4, 5, 6, 7, 8, 9, 10, 11, 12, 13, 14, 15, 16].filterMap fun i => (wM h cI cJ cZ th7 C N S Qk K P Y)[i]?), rfl, rfl, rfl, rfl, by decide, rfl, rfl⟩ ?_)
        have J15 : ∀ (v14 : Bool), v14 = (if (rgt (nN v) (nN q)) = true then true else if (rgt (nN q) (nN v)) = false then false else true) → g_G p l e rm_X7_crack s m args below meth c D A 7 0 0 Q (wM h cI cJ cZ th7 C N S Qk K P Y) [(0, .ref (h 0)), (3, .int r), (4, .int (nI v10))] 87 [.int (bI v14)] := by
          intro v14 ev14
          replace ev14 := ev14.trans (show _ = bsK (nN v) (nN q) from rfl)
          refine g_istore X [(5, .int (bI v14)), (0, .ref (h 0)), (3, .int r), (4, .int (nI v10))] dX7_crack_87 (Nat.le_of_ble_eq_true rfl) rfl ?_
          refine g_iload X 0 dX7_crack_89 rfl ?_
          have J18 : ∀ (v17 : Int32), v17 = (if v14 = false then C 1 v10 else C 0 v10) → g_G p l e rm_X7_crack s m args below meth c D A 7 0 0 Q (wM h cI cJ cZ th7 C N S Qk K P Y) [(0, .ref (h 0)), (3, .int r), (4, .int (nI v10)), (5, .int (bI v14))] 111 [.int v17] := by
            intro v17 ev17
            replace ev17 := ev17.trans (show _ = rdK C (nN v) (nN q) from by rw [ev14, ev10]; rfl)
            refine g_istore X [(6, .int v17), (0, .ref (h 0)), (3, .int r), (4, .int (nI v10)), (5, .int (bI v14))] dX7_crack_111 (Nat.le_of_ble_eq_true rfl) rfl ?_
            refine g_aload_n X 1 dX7_crack_113 rfl rfl ?_
            refine g_get X (C := RX7) (T := TX7) (N := 21) (v := .ref (h 3)) inlX7 0 rfl rfl 3 (Nat.le_of_ble_eq_true rfl) kF_X7_16 rfl dX7_crack_114 ?_
            refine g_iload X 3 dX7_crack_117 rfl ?_
            refine g_iload X 4 dX7_crack_119 rfl ?_
            have J21 : ∀ (v20 : Int32), v20 = (if v14 = false then C 0 v10 else r) → g_G p l e rm_X7_crack s m args below meth c D A 7 0 0 Q (wM h cI cJ cZ th7 C N S Qk K P Y) [(0, .ref (h 0)), (3, .int r), (4, .int (nI v10)), (5, .int (bI v14)), (6, .int v17)] 135 [.int v20, .int (nI v10), .ref (h 3)] := by
              intro v20 ev20
              obtain ⟨C22, eC22⟩ : ∃ z : Cf, z = c2 C 0 v10 v20 := ⟨_, rfl⟩
              refine g_iast X (ws' := wM h cI cJ cZ th7 C22 N S Qk K P Y) 3 rfl (v10) rfl (by omega) (Nat.le_of_ble_eq_true rfl) dX7_crack_135 (by rw [eC22]; first | done | (rfl)) ?_
              refine g_aload_n X 0 dX7_crack_136 rfl rfl ?_
              refine g_get X (C := RX7) (T := TX7) (N := 21) (v := .ref (h 4)) inlX7 0 rfl rfl 4 (Nat.le_of_ble_eq_true rfl) kF_X7_20 rfl dX7_crack_137 ?_
              refine g_iload X 2 dX7_crack_140 rfl ?_
              refine g_iload X 3 dX7_crack_142 rfl ?_
              have J25 : ∀ (v24 : Int32), v24 = (if v14 = false then r else C22 1 v10) → g_G p l e rm_X7_crack s m args below meth c D A 7 0 0 Q (wM h cI cJ cZ th7 C22 N S Qk K P Y) [(6, .int v17)] 158 [.int v24, .int (nI v10), .ref (h 4)] := by
                intro v24 ev24
                obtain ⟨C26, eC26⟩ : ∃ z : Cf, z = c2 C22 1 v10 v24 := ⟨_, rfl⟩
                refine g_iast X (ws' := wM h cI cJ cZ th7 C26 N S Qk K P Y) 4 rfl (v10) rfl (by omega) (Nat.le_of_ble_eq_true rfl) dX7_crack_158 (by rw [eC26]; first | done | (rfl)) ?_
                refine g_iload X 0 dX7_crack_159 rfl ?_
                refine g_iret X hr hlk hQ dX7_crack_161 ?_
                show g_eq _ _ _ _
                try rw [eC26]
                try rw [ev24]
                try rw [eC22]
                try rw [ev20]
                try rw [ev17]
                try rw [ev14]
                try rw [ev10]
                try rw [eth7]
                try rw [ev5]
                refine ⟨?_, ?_⟩ <;> repeat rw [if_pos hc0]
                all_goals (first | done | rfl)
              refine g_bI_eq X (tgt := 157) dX7_crack_144 (by decide) (fun h23 => ?_) (fun h23 => ?_)
              · --
                refine g_iload_n X 1 dX7_crack_157 rfl rfl ?_
                refine g_lv _ [4] rfl ?_
                exact J25 _ (by rw [if_pos (c := v14 = false) h23])
              · --
                refine g_aload_n X 0 dX7_crack_147 rfl rfl ?_
                refine g_get X (C := RX7) (T := TX7) (N := 21) (v := .ref (h 4)) inlX7 0 rfl rfl 4 (Nat.le_of_ble_eq_true rfl) kF_X7_20 rfl dX7_crack_148 ?_
                refine g_iload X 2 dX7_crack_151 rfl ?_
                refine g_iald X 4 rfl (v10) rfl (by omega) (Nat.le_of_ble_eq_true rfl) (v := C22 1 v10) rfl dX7_crack_153 ?_
                refine g_goto X (tgt := 158) dX7_crack_154 (by decide) ?_
                refine g_lv _ [4] rfl ?_
                exact J25 _ (by rw [if_neg (c := v14 = false) (by rw [h23]; decide)])
            refine g_bI_eq X (tgt := 128) dX7_crack_121 (by decide) (fun h19 => ?_) (fun h19 => ?_)
            · --
              refine g_aload_n X 1 dX7_crack_128 rfl rfl ?_
              refine g_get X (C := RX7) (T := TX7) (N := 21) (v := .ref (h 3)) inlX7 0 rfl rfl 3 (Nat.le_of_ble_eq_true rfl) kF_X7_16 rfl dX7_crack_129 ?_
              refine g_iload X 3 dX7_crack_132 rfl ?_
              refine g_iald X 3 rfl (v10) rfl (by omega) (Nat.le_of_ble_eq_true rfl) (v := C 0 v10) rfl dX7_crack_134 ?_
              refine g_lv _ [1, 2, 3, 4, 0] rfl ?_
              exact J21 _ (by rw [if_pos (c := v14 = false) h19])
            · --
              refine g_iload_n X 2 dX7_crack_124 rfl rfl ?_
              refine g_goto X (tgt := 135) dX7_crack_125 (by decide) ?_
              refine g_lv _ [1, 2, 3, 4, 0] rfl ?_
              exact J21 _ (by rw [if_neg (c := v14 = false) (by rw [h19]; decide)])
          refine g_bI_eq X (tgt := 104) dX7_crack_91 (by decide) (fun h16 => ?_) (fun h16 => ?_)
          · --
            refine g_aload_n X 1 dX7_crack_104 rfl rfl ?_
            refine g_get X (C := RX7) (T := TX7) (N := 21) (v := .ref (h 4)) inlX7 0 rfl rfl 4 (Nat.le_of_ble_eq_true rfl) kF_X7_20 rfl dX7_crack_105 ?_
            refine g_iload X 3 dX7_crack_108 rfl ?_
            refine g_iald X 4 rfl (v10) rfl (by omega) (Nat.le_of_ble_eq_true rfl) (v := C 1 v10) rfl dX7_crack_110 ?_
            refine g_lv _ [1, 2, 3, 0] rfl ?_
            exact J18 _ (by rw [if_pos (c := v14 = false) h16])
          · --
            refine g_aload_n X 1 dX7_crack_94 rfl rfl ?_
            refine g_get X (C := RX7) (T := TX7) (N := 21) (v := .ref (h 3)) inlX7 0 rfl rfl 3 (Nat.le_of_ble_eq_true rfl) kF_X7_16 rfl dX7_crack_95 ?_
            refine g_iload X 3 dX7_crack_98 rfl ?_
            refine g_iald X 3 rfl (v10) rfl (by omega) (Nat.le_of_ble_eq_true rfl) (v := C 0 v10) rfl dX7_crack_100 ?_
            refine g_goto X (tgt := 111) dX7_crack_101 (by decide) ?_
            refine g_lv _ [1, 2, 3, 0] rfl ?_
            exact J18 _ (by rw [if_neg (c := v14 = false) (by rw [h16]; decide)])
        refine g_bI_ne X (tgt := 82) dX7_crack_71 (by decide) (fun h12 => ?_) (fun h12 => ?_)
        · --
          refine g_iconst X (v := nI 1) dX7_crack_82 (by decide +kernel) ?_
          refine g_goto X (tgt := 87) dX7_crack_83 (by decide) ?_
          refine g_lv _ [1, 4, 0] rfl ?_
          exact J15 _ (by rw [if_pos (c := (rgt (nN v) (nN q)) = true) h12])
        · --
          refine g_iload_n X 3 dX7_crack_74 rfl rfl ?_
          refine g_iload_n X 2 dX7_crack_75 rfl rfl ?_
          refine g_callS X (As := [.int (nI (nN q)), .int (nI (nN v))]) (rest := []) (m_X7_isRight l D cI cJ cZ (nN q) (nN v) hqn hvn) kM_X7_78 kT_yX7_isRight kZ_RX7 kC_yX7_isRight hV_X7_isRight rfl rfl rfl ⟨Nat.le_of_ble_eq_true rfl, Nat.le_of_ble_eq_true rfl⟩ ⟨Nat.le_of_ble_eq_true rfl, Nat.le_of_ble_eq_true rfl⟩ (Nat.le_of_ble_eq_true rfl) dX7_crack_76 rfl [] rfl rfl (g_kk1 (w2 := wM h cI cJ cZ th7 C N S Qk K P Y) ⟨[], [0, 1, 2, 3, 4, 5, 6, 7, 8, 9, 10, 11, 12, 13, 14, 15, 16], [0, 1, 2, 3, 4, 5, 6, 7, 8, 9, 10, 11, 12, 13, 14, 15, 16], ([0, 1, 2, 3, 4, 5, 6, 7, 8, 9, 10, 11, 12, 13, 14, 15, 16].filterMap fun i => (wM h cI cJ cZ th7 C N S Qk K P Y)[i]?), rfl, rfl, rfl, rfl, by decide, rfl, rfl⟩ ?_)
          refine g_bI_eq X (tgt := 86) dX7_crack_79 (by decide) (fun h13 => ?_) (fun h13 => ?_)
          · --
            refine g_iconst X (v := nI 0) dX7_crack_86 (by decide +kernel) ?_
            refine g_lv _ [1, 4, 0] rfl ?_
            exact J15 _ (by rw [if_neg (c := (rgt (nN v) (nN q)) = true) (by rw [h12]; decide), if_pos (c := (rgt (nN q) (nN v)) = false) h13])
          · --
            refine g_iconst X (v := nI 1) dX7_crack_82 (by decide +kernel) ?_
            refine g_goto X (tgt := 87) dX7_crack_83 (by decide) ?_
            refine g_lv _ [1, 4, 0] rfl ?_
            exact J15 _ (by rw [if_neg (c := (rgt (nN v) (nN q)) = true) (by rw [h12]; decide), if_neg (c := (rgt (nN q) (nN v)) = false) (by rw [h13]; decide)])
      refine g_icN_ge X (a := nN v) (b := nN q) (tgt := 63) (by omega) (by omega) dX7_crack_56 (by decide) (fun h9 => ?_) (fun h9 => ?_)
      · --
        refine g_iload_n X 2 dX7_crack_63 rfl rfl ?_
        exact J11 _ (by rw [if_pos (c := nN q ≤ nN v) h9])
      · --
        refine g_iload_n X 1 dX7_crack_59 rfl rfl ?_
        refine g_goto X (tgt := 64) dX7_crack_60 (by decide) ?_
        exact J11 _ (by rw [if_neg (c := nN q ≤ nN v) h9])
    · --
      have hc1 : ¬ cK3 v q r = 0 := fun z => absurd (show th7 ≤ 0 by rw [eth7, ev5, z]; decide) (by assumption)
      refine g_iconst X (v := nI 0) dX7_crack_52 (by decide +kernel) ?_
      refine g_iret X hr hlk hQ dX7_crack_53 ?_
      show g_eq _ _ _ _
      try rw [eth7]
      try rw [ev5]
      refine ⟨?_, ?_⟩ <;> repeat rw [if_neg hc1]
      all_goals (first | done | rfl)
  refine g_bI_eq X (tgt := 15) dX7_crack_5 (by decide) (fun h1 => ?_) (fun h1 => ?_)
  · --
    refine g_iconst X (v := nI 1) dX7_crack_15 (by decide +kernel) ?_
    refine g_goto X (tgt := 42) dX7_crack_16 (by decide) ?_
    exact J6 _ (by rw [if_pos (c := (inB v (nI 0) (nI 11)) = false) h1])
  · --
    refine g_iload_n X 2 dX7_crack_8 rfl rfl ?_
    refine g_callS X (As := [.int q]) (rest := [.ref (h 0)]) (m_X7_isBlock l D cI cJ cZ q ) kM_X7_91 kT_yX7_isBlock kZ_RX7 kC_yX7_isBlock hV_X7_isBlock rfl rfl rfl ⟨Nat.le_of_ble_eq_true rfl, Nat.le_of_ble_eq_true rfl⟩ ⟨Nat.le_of_ble_eq_true rfl, Nat.le_of_ble_eq_true rfl⟩ (Nat.le_of_ble_eq_true rfl) dX7_crack_9 rfl [] rfl rfl (g_kk1 (w2 := wM h cI cJ cZ th C N S Qk K P Y) ⟨[], [0, 1, 2, 3, 4, 5, 6, 7, 8, 9, 10, 11, 12, 13, 14, 15, 16], [0, 1, 2, 3, 4, 5, 6, 7, 8, 9, 10, 11, 12, 13, 14, 15, 16], ([0, 1, 2, 3, 4, 5, 6, 7, 8, 9, 10, 11, 12, 13, 14, 15, 16].filterMap fun i => (wM h cI cJ cZ th C N S Qk K P Y)[i]?), rfl, rfl, rfl, rfl, by decide, rfl, rfl⟩ ?_)
    refine g_bI_ne X (tgt := 19) dX7_crack_12 (by decide) (fun h2 => ?_) (fun h2 => ?_)
    · --
      refine g_iload_n X 1 dX7_crack_19 rfl rfl ?_
      refine g_iload_n X 2 dX7_crack_20 rfl rfl ?_
      obtain ⟨hvn, evn⟩ := inB_n (v := v) (n := 11) (by decide) (by first | assumption | (by_cases hz : inB v (nI 0) (nI 11) = true; exact hz; simp_all))
      obtain ⟨hqn, eqn⟩ := inB_n (v := q) (n := 11) (by decide) (by first | assumption | (by_cases hz : inB q (nI 0) (nI 11) = true; exact hz; simp_all))
      refine g_st (st' := [.int (nI (nN q)), .int (nI (nN v)), .ref (h 0)]) (by rw [← eqn]; rw [← evn]; first | done | rfl) ?_
      refine g_callS X (As := [.int (nI (nN v)), .int (nI (nN q))]) (rest := [.ref (h 0)]) (m_X7_areNeighbours l D cI cJ cZ (nN v) (nN q) hvn hqn) kM_X7_82 kT_yX7_areNeighbours kZ_RX7 kC_yX7_areNeighbours hV_X7_areNeighbours rfl rfl rfl ⟨Nat.le_of_ble_eq_true rfl, Nat.le_of_ble_eq_true rfl⟩ ⟨Nat.le_of_ble_eq_true rfl, Nat.le_of_ble_eq_true rfl⟩ (Nat.le_of_ble_eq_true rfl) dX7_crack_21 rfl [] rfl rfl (g_kk1 (w2 := wM h cI cJ cZ th C N S Qk K P Y) ⟨[], [0, 1, 2, 3, 4, 5, 6, 7, 8, 9, 10, 11, 12, 13, 14, 15, 16], [0, 1, 2, 3, 4, 5, 6, 7, 8, 9, 10, 11, 12, 13, 14, 15, 16], ([0, 1, 2, 3, 4, 5, 6, 7, 8, 9, 10, 11, 12, 13, 14, 15, 16].filterMap fun i => (wM h cI cJ cZ th C N S Qk K P Y)[i]?), rfl, rfl, rfl, rfl, by decide, rfl, rfl⟩ ?_)
      refine g_bI_eq X (tgt := 37) dX7_crack_24 (by decide) (fun h3 => ?_) (fun h3 => ?_)
      · --
        refine g_iconst X (v := nI 2) dX7_crack_37 (by decide +kernel) ?_
        refine g_goto X (tgt := 42) dX7_crack_38 (by decide) ?_
        exact J6 _ (by rw [if_neg (c := (inB v (nI 0) (nI 11)) = false) (by rw [h1]; decide), if_pos (c := (inB q (nI 0) (nI 11)) = true) h2, if_pos (c := (nbr (nN v) (nN q)) = false) h3])
      · --
        refine g_iload_n X 3 dX7_crack_27 rfl rfl ?_
        refine g_iconst X (v := nI 0) dX7_crack_28 (by decide +kernel) ?_
        refine g_bipush X (v := nI 100) dX7_crack_29 (by decide +kernel) ?_
        refine g_callS X (As := [.int r, .int (nI 0), .int (nI 100)]) (rest := [.ref (h 0)]) (m_X7_in l D cI cJ cZ r (nI 0) (nI 100) ) kM_X7_68 kT_yX7_in kZ_RX7 kC_yX7_in hV_X7_in rfl rfl rfl ⟨Nat.le_of_ble_eq_true rfl, Nat.le_of_ble_eq_true rfl⟩ ⟨Nat.le_of_ble_eq_true rfl, Nat.le_of_ble_eq_true rfl⟩ (Nat.le_of_ble_eq_true rfl) dX7_crack_31 rfl [] rfl rfl (g_kk1 (w2 := wM h cI cJ cZ th C N S Qk K P Y) ⟨[], [0, 1, 2, 3, 4, 5, 6, 7, 8, 9, 10, 11, 12, 13, 14, 15, 16], [0, 1, 2, 3, 4, 5, 6, 7, 8, 9, 10, 11, 12, 13, 14, 15, 16], ([0, 1, 2, 3, 4, 5, 6, 7, 8, 9, 10, 11, 12, 13, 14, 15, 16].filterMap fun i => (wM h cI cJ cZ th C N S Qk K P Y)[i]?), rfl, rfl, rfl, rfl, by decide, rfl, rfl⟩ ?_)
        refine g_bI_ne X (tgt := 41) dX7_crack_34 (by decide) (fun h4 => ?_) (fun h4 => ?_)
        · --
          refine g_iconst X (v := nI 0) dX7_crack_41 (by decide +kernel) ?_
          exact J6 _ (by rw [if_neg (c := (inB v (nI 0) (nI 11)) = false) (by rw [h1]; decide), if_pos (c := (inB q (nI 0) (nI 11)) = true) h2, if_neg (c := (nbr (nN v) (nN q)) = false) (by rw [h3]; decide), if_pos (c := (inB r (nI 0) (nI 100)) = true) h4])
        · --
          refine g_iconst X (v := nI 2) dX7_crack_37 (by decide +kernel) ?_
          refine g_goto X (tgt := 42) dX7_crack_38 (by decide) ?_
          exact J6 _ (by rw [if_neg (c := (inB v (nI 0) (nI 11)) = false) (by rw [h1]; decide), if_pos (c := (inB q (nI 0) (nI 11)) = true) h2, if_neg (c := (nbr (nN v) (nN q)) = false) (by rw [h3]; decide), if_neg (c := (inB r (nI 0) (nI 100)) = true) (by rw [h4]; decide)])
    · --
      refine g_iconst X (v := nI 1) dX7_crack_15 (by decide +kernel) ?_
      refine g_goto X (tgt := 42) dX7_crack_16 (by decide) ?_
      exact J6 _ (by rw [if_neg (c := (inB v (nI 0) (nI 11)) = false) (by rw [h1]; decide), if_neg (c := (inB q (nI 0) (nI 11)) = true) (by rw [h2]; decide)])
def wtN (S : St) (n : Nat) : Int64 := itr (fun b x => x + S 0 b) 0 n
def smM (S : St) (v : Int32) : Int64 := if v = 0 then wtN S 12 else S 12 (nN v)
def wtB (S : St) (x : Int64) (n : Nat) : Int64 := itr (fun b x => x + S 0 b) x n
theorem pos_ne {v : Int32} (h : 0 < v) : ¬ v = 0 := fun e => absurd h (by rw [e]; decide)
theorem in_z {v : Int32} {n : Nat} (h : inB v (nI 0) (nI n) = true) (hn : v ≤ 0) : v = 0 := by
  unfold inB at h
  by_cases h1 : v < nI 0
  · rw [if_pos h1] at h
    exact absurd h (by decide)
  · have e0 : (nI 0).toInt = 0 := by decide
    have e1 : (0 : Int32).toInt = 0 := by decide
    rw [Int32.lt_iff_toInt_lt] at h1
    rw [Int32.le_iff_toInt_le] at hn
    exact Int32.toInt_inj.mp (by omega)

theorem hV_X7_sum : yX7_sum.cls = RX7 ∧ yX7_sum.cls ≠ "java/lang/invoke/MethodHandle" ∧ yX7_sum.cls ≠ "java/lang/invoke/VarHandle" ∧ (parseMethodDescriptor yX7_sum.desc).map (fun d => d.parameters.length) = some 1 := by decide +kernel
abbrev rm_X7_sum : Room := { frames := 1, cells := 0, slots := 0, locals := 22 }
set_option maxRecDepth 100000 in
set_option maxHeartbeats 4000000 in
theorem m_X7_sum (l : Launch) (D : va_G) (cI cJ cZ : ClassId) (h : Nat → Nat) (th : Int32) (C : Cf) (N : Nat → Nat) (S : St) (Qk K P : Nat → Int64) (Y : St) (v : Int32)  : g_Ct l D cI cJ cZ yX7_sum cX7_sum 5 (some .long) rm_X7_sum 0 0 [.ref (h 0), .int v] (wM h cI cJ cZ th C N S Qk K P Y) (g_eq (some (.long (if cR1 v (nI 0) (nI 7) = 0 then smM S v else 0))) (wM h cI cJ cZ (nI (cR1 v (nI 0) (nI 7))) C N S Qk K P Y)) := by
  refine g_body RX7 [(0, .ref (h 0)), (1, .int v)] kH_X7 rfl (Nat.le_of_ble_eq_true rfl) rfl ?_
  intro p e s m args below meth c A X hr hlk hmn Q hQ
  refine g_aload_n X 0 dX7_sum_0 rfl rfl ?_
  refine g_iload_n X 1 dX7_sum_1 rfl rfl ?_
  refine g_iconst X (v := nI 0) dX7_sum_2 (by decide +kernel) ?_
  refine g_bipush X (v := nI 7) dX7_sum_3 (by decide +kernel) ?_
  refine g_callS X (As := [.int v, .int (nI 0), .int (nI 7)]) (rest := [.ref (h 0)]) (m_X7_in l D cI cJ cZ v (nI 0) (nI 7) ) kM_X7_68 kT_yX7_in kZ_RX7 kC_yX7_in hV_X7_in rfl rfl rfl ⟨Nat.le_of_ble_eq_true rfl, Nat.le_of_ble_eq_true rfl⟩ ⟨Nat.le_of_ble_eq_true rfl, Nat.le_of_ble_eq_true rfl⟩ (Nat.le_of_ble_eq_true rfl) dX7_sum_5 rfl [] rfl rfl (g_kk1 (w2 := wM h cI cJ cZ th C N S Qk K P Y) ⟨[], [0, 1, 2, 3, 4, 5, 6, 7, 8, 9, 10, 11, 12, 13, 14, 15, 16], [0, 1, 2, 3, 4, 5, 6, 7, 8, 9, 10, 11, 12, 13, 14, 15, 16], ([0, 1, 2, 3, 4, 5, 6, 7, 8, 9, 10, 11, 12, 13, 14, 15, 16].filterMap fun i => (wM h cI cJ cZ th C N S Qk K P Y)[i]?), rfl, rfl, rfl, rfl, by decide, rfl, rfl⟩ ?_)
  have J3 : ∀ (v2 : Nat), v2 = (if (inB v (nI 0) (nI 7)) = false then 1 else 0) → g_G p l e rm_X7_sum s m args below meth c D A 5 0 0 Q (wM h cI cJ cZ th C N S Qk K P Y) [(0, .ref (h 0)), (1, .int v)] 16 [.int (nI v2), .ref (h 0)] := by
    intro v2 ev2
    have bv2 : v2 < 2147483648 := by subst ev2; (repeat' split) <;> omega
    replace ev2 := ev2.trans (show _ = cR1 v (nI 0) (nI 7) from rfl)
    obtain ⟨th4, eth4⟩ : ∃ z : Int32, z = nI v2 := ⟨_, rfl⟩
    refine g_put X (C := RX7) (T := TX7) (N := 21) (ws' := wM h cI cJ cZ th4 C N S Qk K P Y) inlX7 tyX7 tyX7_ok nmX7 0 rfl rfl 0 (Nat.le_of_ble_eq_true rfl) kF_X7_64 rfl rfl rfl (Nat.le_of_ble_eq_true rfl) dX7_sum_16 (by rw [eth4]; first | done | (rfl)) ?_
    by_cases hx : v2 = 0
    · --
      have hc0 : cR1 v (nI 0) (nI 7) = 0 := by rw [← ev2]; exact hx
      have hth0 : th4 = 0 := by rw [eth4, hx]; decide
      refine g_aload_n X 0 dX7_sum_19 rfl rfl ?_
      refine g_get X (C := RX7) (T := TX7) (N := 21) (v := .int th4) inlX7 0 rfl rfl 0 (Nat.le_of_ble_eq_true rfl) kF_X7_64 rfl dX7_sum_20 ?_
      refine g_if_ne X (tgt := 43) dX7_sum_23 (by decide) (fun h5 => absurd hth0 h5) (fun h5 => ?_)
      by_cases hv0 : v = 0
      · --
        refine g_iload_n X 1 dX7_sum_26 rfl rfl ?_
        refine g_if_le X (tgt := 43) dX7_sum_27 (by decide) (fun h6 => ?_) (fun h6 => absurd (show v ≤ 0 by rw [hv0]; decide) h6)
        refine g_lconst X (v := 0) dX7_sum_43 (by decide +kernel) ?_
        refine g_lstore_n X [(2, .long (0 : Int64)), (0, .ref (h 0)), (1, .int v)] dX7_sum_44 rfl (Nat.le_of_ble_eq_true rfl) rfl ?_
        refine g_iconst X (v := nI 0) dX7_sum_45 (by decide +kernel) ?_
        refine g_istore X [(4, .int (nI 0)), (2, .long (0 : Int64)), (0, .ref (h 0)), (1, .int v)] dX7_sum_46 (Nat.le_of_ble_eq_true rfl) rfl ?_
        have L7 : ∀ (n9 i8 : Nat) (a10 : Int64), i8 + n9 = 12 → a10 = wtN S i8 → g_G p l e rm_X7_sum s m args below meth c D A 5 0 0 Q (wM h cI cJ cZ th4 C N S Qk K P Y) [(0, .ref (h 0)), (1, .int v), (2, .long a10), (4, .int (nI i8))] 48 [] := by
          intro n9
          induction n9 with
          | zero =>
            intro i8 a10 hi11 ea10
            obtain rfl : i8 = 12 := by omega
            refine g_iload X 3 dX7_sum_48 rfl ?_
            refine g_bipush X (v := nI 12) dX7_sum_50 (by decide +kernel) ?_
            refine g_icN_ge X (a := 12) (b := 12) (tgt := 84) (by omega) (by omega) dX7_sum_52 (by decide) (fun h12 => ?_) (fun h12 => absurd h12 (by omega))
            refine g_lload_n X 2 dX7_sum_84 rfl rfl ?_
            refine g_lret X hr hlk hQ dX7_sum_85 ?_
            show g_eq _ _ _ _
            try rw [ea10]
            try rw [eth4]
            try rw [ev2]
            refine ⟨?_, rfl⟩
            rw [if_pos hc0]
            unfold smM
            rw [if_pos hv0]
          | succ n9 ihL7 =>
            intro i8 a10 hi11 ea10
            have hlti8 : i8 < 12 := by omega
            refine g_iload X 3 dX7_sum_48 rfl ?_
            refine g_bipush X (v := nI 12) dX7_sum_50 (by decide +kernel) ?_
            refine g_icN_ge X (a := i8) (b := 12) (tgt := 84) (by omega) (by omega) dX7_sum_52 (by decide) (fun h13 => absurd h13 (by omega)) (fun h13 => ?_)
            refine g_aload_n X 0 dX7_sum_55 rfl rfl ?_
            refine g_get X (C := RX7) (T := TX7) (N := 21) (v := .int th4) inlX7 0 rfl rfl 0 (Nat.le_of_ble_eq_true rfl) kF_X7_64 rfl dX7_sum_56 ?_
            refine g_if_ne X (tgt := 84) dX7_sum_59 (by decide) (fun h14 => absurd hth0 h14) (fun h14 => ?_)
            refine g_iload_n X 1 dX7_sum_62 rfl rfl ?_
            refine g_if_ne X (tgt := 84) dX7_sum_63 (by decide) (fun h15 => absurd hv0 h15) (fun h15 => ?_)
            refine g_lload_n X 2 dX7_sum_66 rfl rfl ?_
            refine g_aload_n X 0 dX7_sum_67 rfl rfl ?_
            refine g_get X (C := RX7) (T := TX7) (N := 21) (v := .ref (h 1)) inlX7 0 rfl rfl 1 (Nat.le_of_ble_eq_true rfl) kF_X7_7 rfl dX7_sum_68 ?_
            refine g_iconst X (v := nI 0) dX7_sum_71 (by decide +kernel) ?_
            refine g_iload X 3 dX7_sum_72 rfl ?_
            refine g_iadd X (v := nI i8) dX7_sum_74 ((nI_add _ _).trans (congrArg nI (by omega))) ?_
            refine g_lald X 1 rfl (0 + i8) (congrArg nI (show i8 = 0 + i8 by omega)) (by omega) (Nat.le_of_ble_eq_true rfl) (v := S 0 i8) (fl_0 _ _ (i := i8) (by omega)) dX7_sum_75 ?_
            refine g_ladd X (v := a10 + (S 0 i8)) dX7_sum_76 rfl ?_
            refine g_lstore_n X [(2, .long (a10 + (S 0 i8))), (0, .ref (h 0)), (1, .int v), (4, .int (nI i8))] dX7_sum_77 rfl (Nat.le_of_ble_eq_true rfl) rfl ?_
            refine g_iinc X [(4, .int (nI (i8 + 1))), (2, .long (a10 + (S 0 i8))), (0, .ref (h 0)), (1, .int v)] (q := 3) (v := nI (i8 + 1)) dX7_sum_78 rfl ((congrArg (fun z => nI (i8) + z) (show Int32.ofInt 1 = nI 1 by decide +kernel)).trans ((nI_add _ _).trans (congrArg nI (by omega)))) (Nat.le_of_ble_eq_true rfl) rfl ?_
            refine g_goto X (tgt := 48) dX7_sum_81 (by decide) ?_
            refine g_lv _ [2, 3, 1, 0] rfl ?_
            exact ihL7 (i8 + 1) _ (by omega) (by (try rw [ea10]); first | done | (rfl))
        refine g_lv _ [2, 3, 1, 0] rfl ?_
        exact L7 (12) 0 _ (by omega) (by first | rfl | ((try rw [eth4]); (try rw [ev2]); first | done | rfl))
      · --
        refine g_iload_n X 1 dX7_sum_26 rfl rfl ?_
        refine g_if_le X (tgt := 43) dX7_sum_27 (by decide) (fun h16 => (hv0 (in_z (cR1_0 hc0) h16)).elim) (fun h16 => ?_)
        refine g_aload_n X 0 dX7_sum_30 rfl rfl ?_
        refine g_get X (C := RX7) (T := TX7) (N := 21) (v := .ref (h 1)) inlX7 0 rfl rfl 1 (Nat.le_of_ble_eq_true rfl) kF_X7_7 rfl dX7_sum_31 ?_
        refine g_sipush X (v := nI 146) dX7_sum_34 (by decide +kernel) ?_
        refine g_iload_n X 1 dX7_sum_37 rfl rfl ?_
        obtain ⟨hvn, evn⟩ := inB_n (by decide) (cR1_0 hc0)
        refine g_iadd X (v := nI (nN v + 146)) dX7_sum_38 ((congrArg (nI 146 + ·) evn).trans ((nI_add _ _).trans (congrArg nI (by omega)))) ?_
        refine g_lald X 1 rfl (146 + (nN v)) (congrArg nI (show nN v + 146 = 146 + (nN v) by omega)) (by omega) (Nat.le_of_ble_eq_true rfl) (v := S 12 (nN v)) (fl_12 _ _ (i := nN v) (by omega)) dX7_sum_39 ?_
        refine g_goto X (tgt := 44) dX7_sum_40 (by decide) ?_
        refine g_lstore_n X [(2, .long (S 12 (nN v))), (0, .ref (h 0)), (1, .int v)] dX7_sum_44 rfl (Nat.le_of_ble_eq_true rfl) rfl ?_
        refine g_iconst X (v := nI 0) dX7_sum_45 (by decide +kernel) ?_
        refine g_istore X [(4, .int (nI 0)), (2, .long (S 12 (nN v))), (0, .ref (h 0)), (1, .int v)] dX7_sum_46 (Nat.le_of_ble_eq_true rfl) rfl ?_
        refine g_iload X 0 dX7_sum_48 rfl ?_
        refine g_bipush X (v := nI 12) dX7_sum_50 (by decide +kernel) ?_
        refine g_icN_ge X (a := 0) (b := 12) (tgt := 84) (by omega) (by omega) dX7_sum_52 (by decide) (fun h17 => ?_) (fun h17 => ?_)
        · --
          refine g_lload_n X 1 dX7_sum_84 rfl rfl ?_
          refine g_lret X hr hlk hQ dX7_sum_85 ?_
          show g_eq _ _ _ _
          try rw [eth4]
          try rw [ev2]
          refine ⟨?_, rfl⟩
          rw [if_pos hc0]
          unfold smM
          rw [if_neg hv0]
        · --
          refine g_aload_n X 2 dX7_sum_55 rfl rfl ?_
          refine g_get X (C := RX7) (T := TX7) (N := 21) (v := .int th4) inlX7 0 rfl rfl 0 (Nat.le_of_ble_eq_true rfl) kF_X7_64 rfl dX7_sum_56 ?_
          refine g_if_ne X (tgt := 84) dX7_sum_59 (by decide) (fun h18 => absurd hth0 h18) (fun h18 => ?_)
          refine g_iload_n X 3 dX7_sum_62 rfl rfl ?_
          refine g_if_ne X (tgt := 84) dX7_sum_63 (by decide) (fun h19 => ?_) (fun h19 => absurd h19 hv0)
          refine g_lload_n X 1 dX7_sum_84 rfl rfl ?_
          refine g_lret X hr hlk hQ dX7_sum_85 ?_
          show g_eq _ _ _ _
          try rw [eth4]
          try rw [ev2]
          refine ⟨?_, rfl⟩
          rw [if_pos hc0]
          unfold smM
          rw [if_neg hv0]
    · --
      have hc1 : ¬ cR1 v (nI 0) (nI 7) = 0 := by rw [← ev2]; exact hx
      have hth1 : ¬ th4 = 0 := by rw [eth4]; exact nI_n0 (by rw [ev2]; exact cR1_3 _ _ _) hx
      refine g_aload_n X 0 dX7_sum_19 rfl rfl ?_
      refine g_get X (C := RX7) (T := TX7) (N := 21) (v := .int th4) inlX7 0 rfl rfl 0 (Nat.le_of_ble_eq_true rfl) kF_X7_64 rfl dX7_sum_20 ?_
      refine g_if_ne X (tgt := 43) dX7_sum_23 (by decide) (fun h20 => ?_) (fun h20 => absurd h20 hth1)
      refine g_lconst X (v := 0) dX7_sum_43 (by decide +kernel) ?_
      refine g_lstore_n X [(2, .long (0 : Int64)), (0, .ref (h 0)), (1, .int v)] dX7_sum_44 rfl (Nat.le_of_ble_eq_true rfl) rfl ?_
      refine g_iconst X (v := nI 0) dX7_sum_45 (by decide +kernel) ?_
      refine g_istore X [(4, .int (nI 0)), (2, .long (0 : Int64)), (0, .ref (h 0)), (1, .int v)] dX7_sum_46 (Nat.le_of_ble_eq_true rfl) rfl ?_
      refine g_iload X 0 dX7_sum_48 rfl ?_
      refine g_bipush X (v := nI 12) dX7_sum_50 (by decide +kernel) ?_
      refine g_icN_ge X (a := 0) (b := 12) (tgt := 84) (by omega) (by omega) dX7_sum_52 (by decide) (fun h21 => ?_) (fun h21 => ?_)
      · --
        refine g_lload_n X 1 dX7_sum_84 rfl rfl ?_
        refine g_lret X hr hlk hQ dX7_sum_85 ?_
        show g_eq _ _ _ _
        try rw [eth4]
        try rw [ev2]
        refine ⟨?_, rfl⟩
        rw [if_neg hc1]
        first | done | rfl
      · --
        refine g_aload_n X 2 dX7_sum_55 rfl rfl ?_
        refine g_get X (C := RX7) (T := TX7) (N := 21) (v := .int th4) inlX7 0 rfl rfl 0 (Nat.le_of_ble_eq_true rfl) kF_X7_64 rfl dX7_sum_56 ?_
        refine g_if_ne X (tgt := 84) dX7_sum_59 (by decide) (fun h22 => ?_) (fun h22 => absurd h22 hth1)
        refine g_lload_n X 1 dX7_sum_84 rfl rfl ?_
        refine g_lret X hr hlk hQ dX7_sum_85 ?_
        show g_eq _ _ _ _
        try rw [eth4]
        try rw [ev2]
        refine ⟨?_, rfl⟩
        rw [if_neg hc1]
        first | done | rfl
  refine g_bI_eq X (tgt := 15) dX7_sum_8 (by decide) (fun h1 => ?_) (fun h1 => ?_)
  · --
    refine g_iconst X (v := nI 1) dX7_sum_15 (by decide +kernel) ?_
    exact J3 _ (by rw [if_pos (c := (inB v (nI 0) (nI 7)) = false) h1])
  · --
    refine g_iconst X (v := nI 0) dX7_sum_11 (by decide +kernel) ?_
    refine g_goto X (tgt := 16) dX7_sum_12 (by decide) ?_
    exact J3 _ (by rw [if_neg (c := (inB v (nI 0) (nI 7)) = false) (by rw [h1]; decide)])
/-- months by number -/
def mnS (C : Cf) (N : Nat → Nat) (S : St) (n : Nat) : St := itr (fun _ T => monS C N T) S n
def mnQ (C : Cf) (N : Nat → Nat) (S : St) (Qk : Nat → Int64) (n : Nat) : Nat → Int64 := itr (fun i Q => monQ C N (mnS C N S i) Q) Qk n
def mnP (C : Cf) (N : Nat → Nat) (S : St) (P : Nat → Int64) (n : Nat) : Nat → Int64 := itr (fun i Q => monP C N (mnS C N S i) Q) P n
def mnY (C : Cf) (N : Nat → Nat) (S Y : St) (n : Nat) : St := itr (fun i Q => monY C N (mnS C N S i) Q) Y n
def mnZ (C : Cf) (N : Nat → Nat) (S Z : St) (n : Nat) : St := itr (fun i Q => monZ C N (mnS C N S i) Q) Z n
theorem itr_sc {α : Type} (f : Nat → α → α) (a : α) (n : Nat) : itr f a (n + 1) = f n (itr f a n) := rfl
theorem mnS_s (C : Cf) (N : Nat → Nat) (S : St) (n : Nat) : mnS C N S (n + 1) = monS C N (mnS C N S n) := rfl
theorem mnQ_s (C : Cf) (N : Nat → Nat) (S : St) (Qk : Nat → Int64) (n : Nat) : mnQ C N S Qk (n + 1) = monQ C N (mnS C N S n) (mnQ C N S Qk n) := by
  unfold mnQ
  exact itr_sc (fun i Q => monQ C N (mnS C N S i) Q) Qk n
theorem mnP_s (C : Cf) (N : Nat → Nat) (S : St) (P : Nat → Int64) (n : Nat) : mnP C N S P (n + 1) = monP C N (mnS C N S n) (mnP C N S P n) := by
  unfold mnP
  exact itr_sc (fun i Q => monP C N (mnS C N S i) Q) P n
theorem mnY_s (C : Cf) (N : Nat → Nat) (S Y : St) (n : Nat) : mnY C N S Y (n + 1) = monY C N (mnS C N S n) (mnY C N S Y n) := by
  unfold mnY
  exact itr_sc (fun i Q => monY C N (mnS C N S i) Q) Y n
theorem mnZ_s (C : Cf) (N : Nat → Nat) (S Z : St) (n : Nat) : mnZ C N S Z (n + 1) = monZ C N (mnS C N S n) (mnZ C N S Z n) := by
  unfold mnZ
  exact itr_sc (fun i Q => monZ C N (mnS C N S i) Q) Z n
theorem mnS_0 (C : Cf) (N : Nat → Nat) (S : St) : mnS C N S 0 = S := rfl
theorem mnQ_0 (C : Cf) (N : Nat → Nat) (S : St) (Qk : Nat → Int64) : mnQ C N S Qk 0 = Qk := rfl
theorem mnP_0 (C : Cf) (N : Nat → Nat) (S : St) (P : Nat → Int64) : mnP C N S P 0 = P := rfl
theorem mnY_0 (C : Cf) (N : Nat → Nat) (S Y : St) : mnY C N S Y 0 = Y := rfl
theorem mnZ_0 (C : Cf) (N : Nat → Nat) (S Z : St) : mnZ C N S Z 0 = Z := rfl
/-- a state from which a month can pass -/
def MonOk (C : Cf) (N : Nat → Nat) (S : St) : Prop := ∃ k : Int, Wk k S ∧ 0 ≤ k ∧ k + 200000000 ≤ 1099511627776 ∧ Wel N S ∧ (S 13 0).toInt ≤ 900 ∧ (S 14 0 = lN (qN S) ∧ qN S ≤ 800000) ∧ Bok N S
theorem MonOk.wok {C : Cf} {N : Nat → Nat} {S : St} (h : MonOk C N S) : Wok S := by
  obtain ⟨k, h1, h2, h3, -⟩ := h
  exact h1.ok (by omega)
def cP2 (S : St) (v : Int32) : Nat := if inB v (nI 1) (nI 24) = true then (if S 13 0 + v.toInt64 ≤ 600 then 0 else 2) else 1
theorem cP2_3 (S : St) (v : Int32) : cP2 S v < 1000 := by unfold cP2; (repeat' split) <;> omega
theorem cP2_0 {S : St} {v : Int32} (h : cP2 S v = 0) : inB v (nI 1) (nI 24) = true ∧ S 13 0 + v.toInt64 ≤ 600 := by
  unfold cP2 at h
  by_cases h1 : inB v (nI 1) (nI 24) = true
  · rw [if_pos h1] at h
    by_cases h2 : S 13 0 + v.toInt64 ≤ 600
    · exact ⟨h1, h2⟩
    · rw [if_neg h2] at h
      exact absurd h (by decide)
  · rw [if_neg h1] at h
    exact absurd h (by decide)

theorem hV_X7_pass : yX7_pass.cls = RX7 ∧ yX7_pass.cls ≠ "java/lang/invoke/MethodHandle" ∧ yX7_pass.cls ≠ "java/lang/invoke/VarHandle" ∧ (parseMethodDescriptor yX7_pass.desc).map (fun d => d.parameters.length) = some 1 := by decide +kernel
abbrev rm_X7_pass : Room := { frames := 6, cells := 0, slots := 0, locals := 137 }
set_option maxRecDepth 100000 in
set_option maxHeartbeats 4000000 in
theorem m_X7_pass (l : Launch) (D : va_G) (cI cJ cZ : ClassId) (h : Nat → Nat) (th : Int32) (C : Cf) (N : Nat → Nat) (S : St) (Qk K P : Nat → Int64) (Y : St) (v : Int32) (hC : Cok C N) (hR : Rok C) (hX : Xok C) (hI : ∀ i, i ≤ 24 → MonOk C N (mnS C N S i)) : g_Ct l D cI cJ cZ yX7_pass cX7_pass 3 (some .int) rm_X7_pass 0 0 [.ref (h 0), .int v] (wM h cI cJ cZ th C N S Qk K P Y) (g_eq (some (.int (if cP2 S v = 0 then (mnS C N S (nN v) 13 0).toInt32 else nI 0))) (wM h cI cJ cZ (nI (cP2 S v)) C N (if cP2 S v = 0 then mnS C N S (nN v) else S) (if cP2 S v = 0 then mnQ C N S Qk (nN v) else Qk) K (if cP2 S v = 0 then mnP C N S P (nN v) else P) (if cP2 S v = 0 then mnY C N S Y (nN v) else Y))) := by
  refine g_body RX7 [(0, .ref (h 0)), (1, .int v)] kH_X7 rfl (Nat.le_of_ble_eq_true rfl) rfl ?_
  intro p e s m args below meth c A X hr hlk hmn Q hQ
  refine g_aload_n X 0 dX7_pass_0 rfl rfl ?_
  refine g_iload_n X 1 dX7_pass_1 rfl rfl ?_
  refine g_iconst X (v := nI 1) dX7_pass_2 (by decide +kernel) ?_
  refine g_bipush X (v := nI 24) dX7_pass_3 (by decide +kernel) ?_
  refine g_callS X (As := [.int v, .int (nI 1), .int (nI 24)]) (rest := [.ref (h 0)]) (m_X7_in l D cI cJ cZ v (nI 1) (nI 24) ) kM_X7_68 kT_yX7_in kZ_RX7 kC_yX7_in hV_X7_in rfl rfl rfl ⟨Nat.le_of_ble_eq_true rfl, Nat.le_of_ble_eq_true rfl⟩ ⟨Nat.le_of_ble_eq_true rfl, Nat.le_of_ble_eq_true rfl⟩ (Nat.le_of_ble_eq_true rfl) dX7_pass_5 rfl [] rfl rfl (g_kk1 (w2 := wM h cI cJ cZ th C N S Qk K P Y) ⟨[], [0, 1, 2, 3, 4, 5, 6, 7, 8, 9, 10, 11, 12, 13, 14, 15, 16], [0, 1, 2, 3, 4, 5, 6, 7, 8, 9, 10, 11, 12, 13, 14, 15, 16], ([0, 1, 2, 3, 4, 5, 6, 7, 8, 9, 10, 11, 12, 13, 14, 15, 16].filterMap fun i => (wM h cI cJ cZ th C N S Qk K P Y)[i]?), rfl, rfl, rfl, rfl, by decide, rfl, rfl⟩ ?_)
  have J4 : ∀ (v3 : Nat), v3 = (if (inB v (nI 1) (nI 24)) = true then if ((S 13 0) + v.toInt64) ≤ (600 : Int64) then 0 else 2 else 1) → g_G p l e rm_X7_pass s m args below meth c D A 3 0 0 Q (wM h cI cJ cZ th C N S Qk K P Y) [(0, .ref (h 0)), (1, .int v)] 38 [.int (nI v3), .ref (h 0)] := by
    intro v3 ev3
    have bv3 : v3 < 2147483648 := by subst ev3; (repeat' split) <;> omega
    replace ev3 := ev3.trans (show _ = cP2 S v from rfl)
    obtain ⟨th5, eth5⟩ : ∃ z : Int32, z = nI v3 := ⟨_, rfl⟩
    refine g_put X (C := RX7) (T := TX7) (N := 21) (ws' := wM h cI cJ cZ th5 C N S Qk K P Y) inlX7 tyX7 tyX7_ok nmX7 0 rfl rfl 0 (Nat.le_of_ble_eq_true rfl) kF_X7_64 rfl rfl rfl (Nat.le_of_ble_eq_true rfl) dX7_pass_38 (by rw [eth5]; first | done | (rfl)) ?_
    by_cases hx : v3 = 0
    · --
      have hc0 : cP2 S v = 0 := by rw [← ev3]; exact hx
      have hth0 : th5 = 0 := by rw [eth5, hx]; decide
      obtain ⟨hvn, evn⟩ := inB_n (by decide) (inB_1 (cP2_0 hc0).1)
      refine g_lvq (lv' := [(0, .ref (h 0)), (1, .int (nI (nN v)))]) (by rw [← evn]; first | done | rfl) ?_
      refine g_iconst X (v := nI 0) dX7_pass_41 (by decide +kernel) ?_
      refine g_istore_n X [(2, .int (nI 0)), (0, .ref (h 0)), (1, .int (nI (nN v)))] dX7_pass_42 rfl (Nat.le_of_ble_eq_true rfl) rfl ?_
      have L6 : ∀ (n8 i7 : Nat) (S9 : St) (Qk10 : Nat → Int64) (P11 : Nat → Int64) (Y12 : St), i7 + n8 = (nN v) → S9 = mnS C N S i7 → Qk10 = mnQ C N S Qk i7 → P11 = mnP C N S P i7 → Y12 = mnY C N S Y i7 → g_G p l e rm_X7_pass s m args below meth c D A 3 0 0 Q (wM h cI cJ cZ th5 C N S9 Qk10 K P11 Y12) [(0, .ref (h 0)), (1, .int (nI (nN v))), (2, .int (nI i7))] 43 [] := by
        intro n8
        induction n8 with
        | zero =>
          intro i7 S9 Qk10 P11 Y12 hi13 eS9 eQk10 eP11 eY12
          obtain rfl : i7 = (nN v) := by omega
          refine g_iload_n X 2 dX7_pass_43 rfl rfl ?_
          refine g_iload_n X 1 dX7_pass_44 rfl rfl ?_
          refine g_icN_ge X (a := (nN v)) (b := nN v) (tgt := 65) (by omega) (by omega) dX7_pass_45 (by decide) (fun h14 => ?_) (fun h14 => absurd h14 (by omega))
          refine g_aload_n X 0 dX7_pass_65 rfl rfl ?_
          refine g_get X (C := RX7) (T := TX7) (N := 21) (v := .int th5) inlX7 0 rfl rfl 0 (Nat.le_of_ble_eq_true rfl) kF_X7_64 rfl dX7_pass_66 ?_
          refine g_if_le X (tgt := 76) dX7_pass_69 (by decide) (fun h15 => ?_) (fun h15 => absurd (by rw [hth0]; decide) h15)
          refine g_aload_n X 0 dX7_pass_76 rfl rfl ?_
          refine g_get X (C := RX7) (T := TX7) (N := 21) (v := .ref (h 1)) inlX7 0 rfl rfl 1 (Nat.le_of_ble_eq_true rfl) kF_X7_7 rfl dX7_pass_77 ?_
          refine g_sipush X (v := nI 154) dX7_pass_80 (by decide +kernel) ?_
          refine g_lald X 1 rfl (154 + 0) (congrArg nI (show 154 = 154 + 0 by omega)) (by omega) (Nat.le_of_ble_eq_true rfl) (v := S9 13 0) (fl_13 _ _ (i := 0) (by omega)) dX7_pass_83 ?_
          refine g_l2i X (v := (S9 13 0).toInt32) dX7_pass_84 rfl ?_
          refine g_iret X hr hlk hQ dX7_pass_85 ?_
          show g_eq _ _ _ _
          try rw [eY12]
          try rw [eP11]
          try rw [eQk10]
          try rw [eS9]
          try rw [eth5]
          try rw [ev3]
          refine ⟨?_, ?_⟩ <;> repeat rw [if_pos hc0]
        | succ n8 ihL6 =>
          intro i7 S9 Qk10 P11 Y12 hi13 eS9 eQk10 eP11 eY12
          have hlti7 : i7 < (nN v) := by omega
          obtain ⟨k, hWk, hk0, hk1, hWe, hmo, hqo, hBo⟩ := hI i7 (by omega)
          rw [← eS9] at hWk hWe hmo hqo hBo
          refine g_iload_n X 2 dX7_pass_43 rfl rfl ?_
          refine g_iload_n X 1 dX7_pass_44 rfl rfl ?_
          refine g_icN_ge X (a := i7) (b := nN v) (tgt := 65) (by omega) (by omega) dX7_pass_45 (by decide) (fun h16 => absurd h16 (by omega)) (fun h16 => ?_)
          refine g_aload_n X 0 dX7_pass_48 rfl rfl ?_
          refine g_get X (C := RX7) (T := TX7) (N := 21) (v := .int th5) inlX7 0 rfl rfl 0 (Nat.le_of_ble_eq_true rfl) kF_X7_64 rfl dX7_pass_49 ?_
          refine g_if_ne X (tgt := 65) dX7_pass_52 (by decide) (fun h17 => absurd hth0 h17) (fun h17 => ?_)
          refine g_aload_n X 0 dX7_pass_55 rfl rfl ?_
          obtain ⟨S18, eS18⟩ : ∃ z : St, z = monS C N S9 := ⟨_, rfl⟩
          obtain ⟨Qk19, eQk19⟩ : ∃ z : Nat → Int64, z = monQ C N S9 Qk10 := ⟨_, rfl⟩
          obtain ⟨P20, eP20⟩ : ∃ z : Nat → Int64, z = monP C N S9 P11 := ⟨_, rfl⟩
          obtain ⟨Y21, eY21⟩ : ∃ z : St, z = monY C N S9 Y12 := ⟨_, rfl⟩
          refine g_callV X (As := []) (rest := []) (m_X7_month l D cI cJ cZ h th5 C N S9 Qk10 K P11 Y12 k hC hR hWk hk0 hk1 hWe hmo hqo hBo hX) kM_X7_185 kI_yX7_month kS_yX7_month kZ_RX7 kC_yX7_month hV_X7_month rfl rfl rfl 0 rfl (ci := 7) rfl ⟨Nat.le_of_ble_eq_true rfl, Nat.le_of_ble_eq_true rfl⟩ ⟨Nat.le_of_ble_eq_true rfl, Nat.le_of_ble_eq_true rfl⟩ (Nat.le_of_ble_eq_true rfl) dX7_pass_56 rfl [0, 1, 2, 3, 4, 5, 6, 7, 8, 9, 10, 11, 12, 13, 14, 15, 16] rfl rfl (g_kk1 (w2 := wM h cI cJ cZ th5 C N S18 Qk19 K P20 Y21) (by rw [eY21]; rw [eP20]; rw [eQk19]; rw [eS18]; exact ⟨[0, 1, 2, 3, 4, 5, 6, 7, 8, 9, 10, 11, 12, 13, 14, 15, 16], [], [0, 1, 2, 3, 4, 5, 6, 7, 8, 9, 10, 11, 12, 13, 14, 15, 16], [], rfl, rfl, rfl, rfl, by decide, rfl, rfl⟩) ?_)
          refine g_iinc X [(2, .int (nI (i7 + 1))), (0, .ref (h 0)), (1, .int (nI (nN v)))] (q := 2) (v := nI (i7 + 1)) dX7_pass_59 rfl ((congrArg (fun z => nI (i7) + z) (show Int32.ofInt 1 = nI 1 by decide +kernel)).trans ((nI_add _ _).trans (congrArg nI (by omega)))) (Nat.le_of_ble_eq_true rfl) rfl ?_
          refine g_goto X (tgt := 43) dX7_pass_62 (by decide) ?_
          refine g_lv _ [1, 2, 0] rfl ?_
          exact ihL6 (i7 + 1) _ _ _ _ (by omega) (by (try rw [eY21]); (try rw [eP20]); (try rw [eQk19]); (try rw [eS18]); (try rw [eY12]); (try rw [eP11]); (try rw [eQk10]); (try rw [eS9]); first | done | (rw [mnS_s])) (by (try rw [eY21]); (try rw [eP20]); (try rw [eQk19]); (try rw [eS18]); (try rw [eY12]); (try rw [eP11]); (try rw [eQk10]); (try rw [eS9]); first | done | (rw [mnQ_s])) (by (try rw [eY21]); (try rw [eP20]); (try rw [eQk19]); (try rw [eS18]); (try rw [eY12]); (try rw [eP11]); (try rw [eQk10]); (try rw [eS9]); first | done | (rw [mnP_s])) (by (try rw [eY21]); (try rw [eP20]); (try rw [eQk19]); (try rw [eS18]); (try rw [eY12]); (try rw [eP11]); (try rw [eQk10]); (try rw [eS9]); first | done | (rw [mnY_s]))
      refine g_lv _ [1, 2, 0] rfl ?_
      exact L6 ((nN v)) 0 _ _ _ _ (by omega) (mnS_0 _ _ _).symm (mnQ_0 _ _ _ _).symm (mnP_0 _ _ _ _).symm (mnY_0 _ _ _ _).symm
    · --
      have hc1 : ¬ cP2 S v = 0 := by rw [← ev3]; exact hx
      have hth1 : ¬ th5 = 0 := by rw [eth5]; exact nI_n0 (by rw [ev3]; exact cP2_3 _ _) hx
      have hth2 : ¬ th5 ≤ 0 := fun z => hx (le0_n (by rw [ev3]; exact cP2_3 _ _) (by rw [← eth5]; exact z))
      refine g_iconst X (v := nI 0) dX7_pass_41 (by decide +kernel) ?_
      refine g_istore_n X [(2, .int (nI 0)), (0, .ref (h 0)), (1, .int v)] dX7_pass_42 rfl (Nat.le_of_ble_eq_true rfl) rfl ?_
      refine g_iload_n X 0 dX7_pass_43 rfl rfl ?_
      refine g_iload_n X 2 dX7_pass_44 rfl rfl ?_
      refine g_icmp_ge X (tgt := 65) dX7_pass_45 (by decide) (fun h22 => ?_) (fun h22 => ?_)
      · --
        refine g_aload_n X 1 dX7_pass_65 rfl rfl ?_
        refine g_get X (C := RX7) (T := TX7) (N := 21) (v := .int th5) inlX7 0 rfl rfl 0 (Nat.le_of_ble_eq_true rfl) kF_X7_64 rfl dX7_pass_66 ?_
        refine g_if_le X (tgt := 76) dX7_pass_69 (by decide) (fun h23 => (hth2 h23).elim) (fun h23 => ?_)
        refine g_iconst X (v := nI 0) dX7_pass_72 (by decide +kernel) ?_
        refine g_goto X (tgt := 85) dX7_pass_73 (by decide) ?_
        refine g_iret X hr hlk hQ dX7_pass_85 ?_
        show g_eq _ _ _ _
        try rw [eth5]
        try rw [ev3]
        refine ⟨?_, ?_⟩ <;> repeat rw [if_neg hc1]
      · --
        refine g_aload_n X 1 dX7_pass_48 rfl rfl ?_
        refine g_get X (C := RX7) (T := TX7) (N := 21) (v := .int th5) inlX7 0 rfl rfl 0 (Nat.le_of_ble_eq_true rfl) kF_X7_64 rfl dX7_pass_49 ?_
        refine g_if_ne X (tgt := 65) dX7_pass_52 (by decide) (fun h24 => ?_) (fun h24 => absurd h24 hth1)
        refine g_aload_n X 1 dX7_pass_65 rfl rfl ?_
        refine g_get X (C := RX7) (T := TX7) (N := 21) (v := .int th5) inlX7 0 rfl rfl 0 (Nat.le_of_ble_eq_true rfl) kF_X7_64 rfl dX7_pass_66 ?_
        refine g_if_le X (tgt := 76) dX7_pass_69 (by decide) (fun h25 => (hth2 h25).elim) (fun h25 => ?_)
        refine g_iconst X (v := nI 0) dX7_pass_72 (by decide +kernel) ?_
        refine g_goto X (tgt := 85) dX7_pass_73 (by decide) ?_
        refine g_iret X hr hlk hQ dX7_pass_85 ?_
        show g_eq _ _ _ _
        try rw [eth5]
        try rw [ev3]
        refine ⟨?_, ?_⟩ <;> repeat rw [if_neg hc1]
  refine g_bI_ne X (tgt := 15) dX7_pass_8 (by decide) (fun h1 => ?_) (fun h1 => ?_)
  · --
    refine g_aload_n X 0 dX7_pass_15 rfl rfl ?_
    refine g_get X (C := RX7) (T := TX7) (N := 21) (v := .ref (h 1)) inlX7 0 rfl rfl 1 (Nat.le_of_ble_eq_true rfl) kF_X7_7 rfl dX7_pass_16 ?_
    refine g_sipush X (v := nI 154) dX7_pass_19 (by decide +kernel) ?_
    refine g_lald X 1 rfl (154 + 0) (congrArg nI (show 154 = 154 + 0 by omega)) (by omega) (Nat.le_of_ble_eq_true rfl) (v := S 13 0) (fl_13 _ _ (i := 0) (by omega)) dX7_pass_22 ?_
    refine g_iload_n X 1 dX7_pass_23 rfl rfl ?_
    refine g_i2l X (v := v.toInt64) dX7_pass_24 rfl ?_
    refine g_ladd X (v := (S 13 0) + v.toInt64) dX7_pass_25 rfl ?_
    refine g_ldc2 X kL_X7_183 dX7_pass_26 ?_
    refine g_lj_le X (tgt := 37) (pc1 := 30) dX7_pass_29 rfl dX7_pass_30 (by decide) (fun h2 => ?_) (fun h2 => ?_)
    · --
      refine g_iconst X (v := nI 0) dX7_pass_37 (by decide +kernel) ?_
      exact J4 _ (by rw [if_pos (c := (inB v (nI 1) (nI 24)) = true) h1, if_pos (c := ((S 13 0) + v.toInt64) ≤ (600 : Int64)) h2])
    · --
      refine g_iconst X (v := nI 2) dX7_pass_33 (by decide +kernel) ?_
      refine g_goto X (tgt := 38) dX7_pass_34 (by decide) ?_
      exact J4 _ (by rw [if_pos (c := (inB v (nI 1) (nI 24)) = true) h1, if_neg (c := ((S 13 0) + v.toInt64) ≤ (600 : Int64)) h2])
  · --
    refine g_iconst X (v := nI 1) dX7_pass_11 (by decide +kernel) ?_
    refine g_goto X (tgt := 38) dX7_pass_12 (by decide) ?_
    exact J4 _ (by rw [if_neg (c := (inB v (nI 1) (nI 24)) = true) (by rw [h1]; decide)])
