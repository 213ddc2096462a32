/-! what the reference tells by number -/
def cnM (N : Nat → Nat) (S : St) (v : Int32) : Int32 := if ¬ v = 0 then (if ¬ v = nI 1 then (if ¬ v = nI 2 then (if ¬ v = nI 3 then (S 14 0).toInt32 else nI (N 1)) else nI (N 2)) else nI (N 0)) else (S 13 0).toInt32
def twM (C : Cf) (S : St) (v q : Int32) : Int64 := if ¬ q = 0 then (if ¬ q = nI 1 then (if ¬ q = nI 2 then (if ¬ q = nI 3 then (if ¬ q = nI 4 then (if ¬ q = nI 5 then S 8 (nN v) else S 7 (nN v)) else S 6 (nN v)) else S 5 (nN v)) else S 4 (nN v)) else (C 4 (nN v)).toInt64) else (C 2 (nN v)).toInt64

theorem hV_X7_count : yX7_count.cls = RX7 ∧ yX7_count.cls ≠ "java/lang/invoke/MethodHandle" ∧ yX7_count.cls ≠ "java/lang/invoke/VarHandle" ∧ (parseMethodDescriptor yX7_count.desc).map (fun d => d.parameters.length) = some 1 := by decide +kernel
abbrev rm_X7_count : Room := { frames := 1, cells := 0, slots := 0, locals := 22 }
set_option maxRecDepth 100000 in
set_option maxHeartbeats 4000000 in
theorem m_X7_count (l : Launch) (D : va_G) (cI cJ cZ : ClassId) (h : Nat → Nat) (th : Int32) (C : Cf) (N : Nat → Nat) (S : St) (Qk K P : Nat → Int64) (Y : St) (v : Int32)  : g_Ct l D cI cJ cZ yX7_count cX7_count 2 (some .int) rm_X7_count 0 0 [.ref (h 0), .int v] (wM h cI cJ cZ th C N S Qk K P Y) (g_eq (some (.int (if cR1 v (nI 0) (nI 4) = 0 then cnM N S v else nI 0))) (wM h cI cJ cZ (nI (cR1 v (nI 0) (nI 4))) C N S Qk K P Y)) := by
  refine g_body RX7 [(0, .ref (h 0)), (1, .int v)] kH_X7 rfl (Nat.le_of_ble_eq_true rfl) rfl ?_
  intro p e s m args below meth c A X hr hlk hmn Q hQ
  refine g_aload_n X 0 dX7_count_0 rfl rfl ?_
  refine g_iload_n X 1 dX7_count_1 rfl rfl ?_
  refine g_iconst X (v := nI 0) dX7_count_2 (by decide +kernel) ?_
  refine g_iconst X (v := nI 4) dX7_count_3 (by decide +kernel) ?_
  refine g_callS X (As := [.int v, .int (nI 0), .int (nI 4)]) (rest := [.ref (h 0)]) (m_X7_in l D cI cJ cZ v (nI 0) (nI 4) ) kM_X7_68 kT_yX7_in kZ_RX7 kC_yX7_in hV_X7_in rfl rfl rfl ⟨Nat.le_of_ble_eq_true rfl, Nat.le_of_ble_eq_true rfl⟩ ⟨Nat.le_of_ble_eq_true rfl, Nat.le_of_ble_eq_true rfl⟩ (Nat.le_of_ble_eq_true rfl) dX7_count_4 rfl [] rfl rfl (g_kk1 (w2 := wM h cI cJ cZ th C N S Qk K P Y) ⟨[], [0, 1, 2, 3, 4, 5, 6, 7, 8, 9, 10, 11, 12, 13, 14, 15, 16], [0, 1, 2, 3, 4, 5, 6, 7, 8, 9, 10, 11, 12, 13, 14, 15, 16], ([0, 1, 2, 3, 4, 5, 6, 7, 8, 9, 10, 11, 12, 13, 14, 15, 16].filterMap fun i => (wM h cI cJ cZ th C N S Qk K P Y)[i]?), rfl, rfl, rfl, rfl, by decide, rfl, rfl⟩ ?_)
  have J3 : ∀ (v2 : Nat), v2 = (if (inB v (nI 0) (nI 4)) = false then 1 else 0) → g_G p l e rm_X7_count s m args below meth c D A 2 0 0 Q (wM h cI cJ cZ th C N S Qk K P Y) [(0, .ref (h 0)), (1, .int v)] 15 [.int (nI v2), .ref (h 0)] := by
    intro v2 ev2
    have bv2 : v2 < 2147483648 := by subst ev2; (repeat' split) <;> omega
    replace ev2 := ev2.trans (show _ = cR1 v (nI 0) (nI 4) from rfl)
    obtain ⟨th4, eth4⟩ : ∃ z : Int32, z = nI v2 := ⟨_, rfl⟩
    refine g_put X (C := RX7) (T := TX7) (N := 21) (ws' := wM h cI cJ cZ th4 C N S Qk K P Y) inlX7 tyX7 tyX7_ok nmX7 0 rfl rfl 0 (Nat.le_of_ble_eq_true rfl) kF_X7_64 rfl rfl rfl (Nat.le_of_ble_eq_true rfl) dX7_count_15 (by rw [eth4]; first | done | (rfl)) ?_
    refine g_aload_n X 0 dX7_count_18 rfl rfl ?_
    refine g_get X (C := RX7) (T := TX7) (N := 21) (v := .int th4) inlX7 0 rfl rfl 0 (Nat.le_of_ble_eq_true rfl) kF_X7_64 rfl dX7_count_19 ?_
    refine g_if_le X (tgt := 27) dX7_count_22 (by decide) (fun h5 => ?_) (fun h5 => ?_)
    · --
      have hc0 : cR1 v (nI 0) (nI 4) = 0 := le0_n (cR1_3 _ _ _) (by rw [← ev2, ← eth4]; assumption)
      refine g_iload_n X 1 dX7_count_27 rfl rfl ?_
      have J11 : ∀ (v10 : Int32), v10 = (if ¬ v = 0 then if ¬ v = (nI 1) then if ¬ v = (nI 2) then if ¬ v = (nI 3) then (S 14 0).toInt32 else nI (N 1) else nI (N 2) else nI (N 0) else (S 13 0).toInt32) → g_G p l e rm_X7_count s m args below meth c D A 2 0 0 Q (wM h cI cJ cZ th4 C N S Qk K P Y) [] 88 [.int v10] := by
        intro v10 ev10
        replace ev10 := ev10.trans (show _ = cnM N S v from rfl)
        refine g_iret X hr hlk hQ dX7_count_88 ?_
        show g_eq _ _ _ _
        try rw [ev10]
        try rw [eth4]
        try rw [ev2]
        refine ⟨?_, rfl⟩
        rw [if_pos hc0]
      refine g_if_ne X (tgt := 43) dX7_count_28 (by decide) (fun h6 => ?_) (fun h6 => ?_)
      · --
        refine g_iload_n X 1 dX7_count_43 rfl rfl ?_
        refine g_iconst X (v := nI 1) dX7_count_44 (by decide +kernel) ?_
        refine g_icmp_ne X (tgt := 55) dX7_count_45 (by decide) (fun h7 => ?_) (fun h7 => ?_)
        · --
          refine g_iload_n X 1 dX7_count_55 rfl rfl ?_
          refine g_iconst X (v := nI 2) dX7_count_56 (by decide +kernel) ?_
          refine g_icmp_ne X (tgt := 67) dX7_count_57 (by decide) (fun h8 => ?_) (fun h8 => ?_)
          · --
            refine g_iload_n X 1 dX7_count_67 rfl rfl ?_
            refine g_iconst X (v := nI 3) dX7_count_68 (by decide +kernel) ?_
            refine g_icmp_ne X (tgt := 79) dX7_count_69 (by decide) (fun h9 => ?_) (fun h9 => ?_)
            · --
              refine g_aload_n X 0 dX7_count_79 rfl rfl ?_
              refine g_get X (C := RX7) (T := TX7) (N := 21) (v := .ref (h 1)) inlX7 0 rfl rfl 1 (Nat.le_of_ble_eq_true rfl) kF_X7_7 rfl dX7_count_80 ?_
              refine g_sipush X (v := nI 155) dX7_count_83 (by decide +kernel) ?_
              refine g_lald X 1 rfl (155 + 0) (congrArg nI (show 155 = 155 + 0 by omega)) (by omega) (Nat.le_of_ble_eq_true rfl) (v := S 14 0) (fl_14 _ _ (i := 0) (by omega)) dX7_count_86 ?_
              refine g_l2i X (v := (S 14 0).toInt32) dX7_count_87 rfl ?_
              refine g_lv _ [] rfl ?_
              exact J11 _ (by rw [if_pos (c := ¬ v = 0) h6, if_pos (c := ¬ v = (nI 1)) h7, if_pos (c := ¬ v = (nI 2)) h8, if_pos (c := ¬ v = (nI 3)) h9])
            · --
              refine g_aload_n X 0 dX7_count_72 rfl rfl ?_
              refine g_get X (C := RX7) (T := TX7) (N := 21) (v := .int (nI (N 1))) inlX7 0 rfl rfl 11 (Nat.le_of_ble_eq_true rfl) kF_X7_104 rfl dX7_count_73 ?_
              refine g_goto X (tgt := 88) dX7_count_76 (by decide) ?_
              refine g_lv _ [] rfl ?_
              exact J11 _ (by rw [if_pos (c := ¬ v = 0) h6, if_pos (c := ¬ v = (nI 1)) h7, if_pos (c := ¬ v = (nI 2)) h8, if_neg (c := ¬ v = (nI 3)) (fun z => z h9)])
          · --
            refine g_aload_n X 0 dX7_count_60 rfl rfl ?_
            refine g_get X (C := RX7) (T := TX7) (N := 21) (v := .int (nI (N 2))) inlX7 0 rfl rfl 14 (Nat.le_of_ble_eq_true rfl) kF_X7_75 rfl dX7_count_61 ?_
            refine g_goto X (tgt := 88) dX7_count_64 (by decide) ?_
            refine g_lv _ [] rfl ?_
            exact J11 _ (by rw [if_pos (c := ¬ v = 0) h6, if_pos (c := ¬ v = (nI 1)) h7, if_neg (c := ¬ v = (nI 2)) (fun z => z h8)])
        · --
          refine g_aload_n X 0 dX7_count_48 rfl rfl ?_
          refine g_get X (C := RX7) (T := TX7) (N := 21) (v := .int (nI (N 0))) inlX7 0 rfl rfl 6 (Nat.le_of_ble_eq_true rfl) kF_X7_72 rfl dX7_count_49 ?_
          refine g_goto X (tgt := 88) dX7_count_52 (by decide) ?_
          refine g_lv _ [] rfl ?_
          exact J11 _ (by rw [if_pos (c := ¬ v = 0) h6, if_neg (c := ¬ v = (nI 1)) (fun z => z h7)])
      · --
        refine g_aload_n X 0 dX7_count_31 rfl rfl ?_
        refine g_get X (C := RX7) (T := TX7) (N := 21) (v := .ref (h 1)) inlX7 0 rfl rfl 1 (Nat.le_of_ble_eq_true rfl) kF_X7_7 rfl dX7_count_32 ?_
        refine g_sipush X (v := nI 154) dX7_count_35 (by decide +kernel) ?_
        refine g_lald X 1 rfl (154 + 0) (congrArg nI (show 154 = 154 + 0 by omega)) (by omega) (Nat.le_of_ble_eq_true rfl) (v := S 13 0) (fl_13 _ _ (i := 0) (by omega)) dX7_count_38 ?_
        refine g_l2i X (v := (S 13 0).toInt32) dX7_count_39 rfl ?_
        refine g_goto X (tgt := 88) dX7_count_40 (by decide) ?_
        refine g_lv _ [] rfl ?_
        exact J11 _ (by rw [if_neg (c := ¬ v = 0) (fun z => z h6)])
    · --
      have hc1 : ¬ cR1 v (nI 0) (nI 4) = 0 := fun z => absurd (show th4 ≤ 0 by rw [eth4, ev2, z]; decide) (by assumption)
      refine g_iconst X (v := nI 0) dX7_count_25 (by decide +kernel) ?_
      refine g_iret X hr hlk hQ dX7_count_26 ?_
      show g_eq _ _ _ _
      try rw [eth4]
      try rw [ev2]
      refine ⟨?_, rfl⟩
      rw [if_neg hc1]
  refine g_bI_eq X (tgt := 14) dX7_count_7 (by decide) (fun h1 => ?_) (fun h1 => ?_)
  · --
    refine g_iconst X (v := nI 1) dX7_count_14 (by decide +kernel) ?_
    exact J3 _ (by rw [if_pos (c := (inB v (nI 0) (nI 4)) = false) h1])
  · --
    refine g_iconst X (v := nI 0) dX7_count_10 (by decide +kernel) ?_
    refine g_goto X (tgt := 15) dX7_count_11 (by decide) ?_
    exact J3 _ (by rw [if_neg (c := (inB v (nI 0) (nI 4)) = false) (by rw [h1]; decide)])
theorem hV_X7_ofWell : yX7_ofWell.cls = RX7 ∧ yX7_ofWell.cls ≠ "java/lang/invoke/MethodHandle" ∧ yX7_ofWell.cls ≠ "java/lang/invoke/VarHandle" ∧ (parseMethodDescriptor yX7_ofWell.desc).map (fun d => d.parameters.length) = some 2 := by decide +kernel
abbrev rm_X7_ofWell : Room := { frames := 2, cells := 0, slots := 0, locals := 43 }
set_option maxRecDepth 100000 in
set_option maxHeartbeats 4000000 in
theorem m_X7_ofWell (l : Launch) (D : va_G) (cI cJ cZ : ClassId) (h : Nat → Nat) (th : Int32) (C : Cf) (N : Nat → Nat) (S : St) (Qk K P : Nat → Int64) (Y : St) (v q : Int32) (hC : Cok C N) : g_Ct l D cI cJ cZ yX7_ofWell cX7_ofWell 3 (some .long) rm_X7_ofWell 0 0 [.ref (h 0), .int v, .int q] (wM h cI cJ cZ th C N S Qk K P Y) (g_eq (some (.long (if cI2 (N 0) v q (nI 0) (nI 6) = 0 then twM C S v q else 0))) (wM h cI cJ cZ (nI (cI2 (N 0) v q (nI 0) (nI 6))) C N S Qk K P Y)) := by
  refine g_body RX7 [(0, .ref (h 0)), (1, .int v), (2, .int q)] kH_X7 rfl (Nat.le_of_ble_eq_true rfl) rfl ?_
  intro p e s m args below meth c A X hr hlk hmn Q hQ
  have hN0 := hC.n0
  have hN1 := hC.n1
  have hN2 := hC.n2
  refine g_aload_n X 0 dX7_ofWell_0 rfl rfl ?_
  refine g_aload_n X 0 dX7_ofWell_1 rfl rfl ?_
  refine g_iload_n X 1 dX7_ofWell_2 rfl rfl ?_
  refine g_callV X (As := [.int v]) (rest := [.ref (h 0)]) (m_X7_isWell l D cI cJ cZ h th C N S Qk K P Y v ) kM_X7_101 kI_yX7_isWell kS_yX7_isWell kZ_RX7 kC_yX7_isWell hV_X7_isWell rfl rfl rfl 0 rfl (ci := 7) rfl ⟨Nat.le_of_ble_eq_true rfl, Nat.le_of_ble_eq_true rfl⟩ ⟨Nat.le_of_ble_eq_true rfl, Nat.le_of_ble_eq_true rfl⟩ (Nat.le_of_ble_eq_true rfl) dX7_ofWell_3 rfl [0, 1, 2, 3, 4, 5, 6, 7, 8, 9, 10, 11, 12, 13, 14, 15, 16] rfl rfl (g_kk1 (w2 := wM h cI cJ cZ th C N S Qk K P Y) ⟨[0, 1, 2, 3, 4, 5, 6, 7, 8, 9, 10, 11, 12, 13, 14, 15, 16], [], [0, 1, 2, 3, 4, 5, 6, 7, 8, 9, 10, 11, 12, 13, 14, 15, 16], [], rfl, rfl, rfl, rfl, by decide, rfl, rfl⟩ ?_)
  have J4 : ∀ (v3 : Nat), v3 = (if (inB v (nI 0) (nI (N 0) - nI 1)) = true then if (inB q (nI 0) (nI 6)) = true then 0 else 2 else 1) → g_G p l e rm_X7_ofWell s m args below meth c D A 3 0 0 Q (wM h cI cJ cZ th C N S Qk K P Y) [(0, .ref (h 0)), (1, .int v), (2, .int q)] 28 [.int (nI v3), .ref (h 0)] := by
    intro v3 ev3
    have bv3 : v3 < 2147483648 := by subst ev3; (repeat' split) <;> omega
    replace ev3 := ev3.trans (show _ = cI2 (N 0) v q (nI 0) (nI 6) from rfl)
    obtain ⟨th5, eth5⟩ : ∃ z : Int32, z = nI v3 := ⟨_, rfl⟩
    refine g_put X (C := RX7) (T := TX7) (N := 21) (ws' := wM h cI cJ cZ th5 C N S Qk K P Y) inlX7 tyX7 tyX7_ok nmX7 0 rfl rfl 0 (Nat.le_of_ble_eq_true rfl) kF_X7_64 rfl rfl rfl (Nat.le_of_ble_eq_true rfl) dX7_ofWell_28 (by rw [eth5]; first | done | (rfl)) ?_
    refine g_aload_n X 0 dX7_ofWell_31 rfl rfl ?_
    refine g_get X (C := RX7) (T := TX7) (N := 21) (v := .int th5) inlX7 0 rfl rfl 0 (Nat.le_of_ble_eq_true rfl) kF_X7_64 rfl dX7_ofWell_32 ?_
    refine g_if_le X (tgt := 40) dX7_ofWell_35 (by decide) (fun h6 => ?_) (fun h6 => ?_)
    · --
      have hc0 : cI2 (N 0) v q (nI 0) (nI 6) = 0 := le0_n (cI2_3 _ _ _ _ _) (by rw [← ev3, ← eth5]; assumption)
      obtain ⟨hvn, evn⟩ := inB_m (by omega) (cI2_0 hc0).1
      refine g_iload_n X 2 dX7_ofWell_40 rfl rfl ?_
      have J14 : ∀ (v13 : Int64), v13 = (if ¬ q = 0 then if ¬ q = (nI 1) then if ¬ q = (nI 2) then if ¬ q = (nI 3) then if ¬ q = (nI 4) then if ¬ q = (nI 5) then S 8 (nN v) else S 7 (nN v) else S 6 (nN v) else S 5 (nN v) else S 4 (nN v) else (C 4 (nN v)).toInt64 else (C 2 (nN v)).toInt64) → g_G p l e rm_X7_ofWell s m args below meth c D A 3 0 0 Q (wM h cI cJ cZ th5 C N S Qk K P Y) [] 146 [.long v13] := by
        intro v13 ev13
        replace ev13 := ev13.trans (show _ = twM C S v q from rfl)
        refine g_lret X hr hlk hQ dX7_ofWell_146 ?_
        show g_eq _ _ _ _
        try rw [ev13]
        try rw [eth5]
        try rw [ev3]
        refine ⟨?_, rfl⟩
        rw [if_pos hc0]
      refine g_if_ne X (tgt := 54) dX7_ofWell_41 (by decide) (fun h7 => ?_) (fun h7 => ?_)
      · --
        refine g_iload_n X 2 dX7_ofWell_54 rfl rfl ?_
        refine g_iconst X (v := nI 1) dX7_ofWell_55 (by decide +kernel) ?_
        refine g_icmp_ne X (tgt := 69) dX7_ofWell_56 (by decide) (fun h8 => ?_) (fun h8 => ?_)
        · --
          refine g_iload_n X 2 dX7_ofWell_69 rfl rfl ?_
          refine g_iconst X (v := nI 2) dX7_ofWell_70 (by decide +kernel) ?_
          refine g_icmp_ne X (tgt := 86) dX7_ofWell_71 (by decide) (fun h9 => ?_) (fun h9 => ?_)
          · --
            refine g_iload_n X 2 dX7_ofWell_86 rfl rfl ?_
            refine g_iconst X (v := nI 3) dX7_ofWell_87 (by decide +kernel) ?_
            refine g_icmp_ne X (tgt := 103) dX7_ofWell_88 (by decide) (fun h10 => ?_) (fun h10 => ?_)
            · --
              refine g_iload_n X 2 dX7_ofWell_103 rfl rfl ?_
              refine g_iconst X (v := nI 4) dX7_ofWell_104 (by decide +kernel) ?_
              refine g_icmp_ne X (tgt := 120) dX7_ofWell_105 (by decide) (fun h11 => ?_) (fun h11 => ?_)
              · --
                refine g_iload_n X 2 dX7_ofWell_120 rfl rfl ?_
                refine g_iconst X (v := nI 5) dX7_ofWell_121 (by decide +kernel) ?_
                refine g_icmp_ne X (tgt := 137) dX7_ofWell_122 (by decide) (fun h12 => ?_) (fun h12 => ?_)
                · --
                  refine g_aload_n X 0 dX7_ofWell_137 rfl rfl ?_
                  refine g_get X (C := RX7) (T := TX7) (N := 21) (v := .ref (h 1)) inlX7 0 rfl rfl 1 (Nat.le_of_ble_eq_true rfl) kF_X7_7 rfl dX7_ofWell_138 ?_
                  refine g_bipush X (v := nI 88) dX7_ofWell_141 (by decide +kernel) ?_
                  refine g_iload_n X 1 dX7_ofWell_143 rfl rfl ?_
                  refine g_iadd X (v := nI (nN v + 88)) dX7_ofWell_144 ((congrArg (nI 88 + ·) evn).trans ((nI_add _ _).trans (congrArg nI (by omega)))) ?_
                  refine g_lald X 1 rfl (88 + (nN v)) (congrArg nI (show nN v + 88 = 88 + (nN v) by omega)) (by omega) (Nat.le_of_ble_eq_true rfl) (v := S 8 (nN v)) (fl_8 _ _ (i := nN v) (by omega)) dX7_ofWell_145 ?_
                  refine g_lv _ [] rfl ?_
                  exact J14 _ (by rw [if_pos (c := ¬ q = 0) h7, if_pos (c := ¬ q = (nI 1)) h8, if_pos (c := ¬ q = (nI 2)) h9, if_pos (c := ¬ q = (nI 3)) h10, if_pos (c := ¬ q = (nI 4)) h11, if_pos (c := ¬ q = (nI 5)) h12])
                · --
                  refine g_aload_n X 0 dX7_ofWell_125 rfl rfl ?_
                  refine g_get X (C := RX7) (T := TX7) (N := 21) (v := .ref (h 1)) inlX7 0 rfl rfl 1 (Nat.le_of_ble_eq_true rfl) kF_X7_7 rfl dX7_ofWell_126 ?_
                  refine g_bipush X (v := nI 78) dX7_ofWell_129 (by decide +kernel) ?_
                  refine g_iload_n X 1 dX7_ofWell_131 rfl rfl ?_
                  refine g_iadd X (v := nI (nN v + 78)) dX7_ofWell_132 ((congrArg (nI 78 + ·) evn).trans ((nI_add _ _).trans (congrArg nI (by omega)))) ?_
                  refine g_lald X 1 rfl (78 + (nN v)) (congrArg nI (show nN v + 78 = 78 + (nN v) by omega)) (by omega) (Nat.le_of_ble_eq_true rfl) (v := S 7 (nN v)) (fl_7 _ _ (i := nN v) (by omega)) dX7_ofWell_133 ?_
                  refine g_goto X (tgt := 146) dX7_ofWell_134 (by decide) ?_
                  refine g_lv _ [] rfl ?_
                  exact J14 _ (by rw [if_pos (c := ¬ q = 0) h7, if_pos (c := ¬ q = (nI 1)) h8, if_pos (c := ¬ q = (nI 2)) h9, if_pos (c := ¬ q = (nI 3)) h10, if_pos (c := ¬ q = (nI 4)) h11, if_neg (c := ¬ q = (nI 5)) (fun z => z h12)])
              · --
                refine g_aload_n X 0 dX7_ofWell_108 rfl rfl ?_
                refine g_get X (C := RX7) (T := TX7) (N := 21) (v := .ref (h 1)) inlX7 0 rfl rfl 1 (Nat.le_of_ble_eq_true rfl) kF_X7_7 rfl dX7_ofWell_109 ?_
                refine g_bipush X (v := nI 68) dX7_ofWell_112 (by decide +kernel) ?_
                refine g_iload_n X 1 dX7_ofWell_114 rfl rfl ?_
                refine g_iadd X (v := nI (nN v + 68)) dX7_ofWell_115 ((congrArg (nI 68 + ·) evn).trans ((nI_add _ _).trans (congrArg nI (by omega)))) ?_
                refine g_lald X 1 rfl (68 + (nN v)) (congrArg nI (show nN v + 68 = 68 + (nN v) by omega)) (by omega) (Nat.le_of_ble_eq_true rfl) (v := S 6 (nN v)) (fl_6 _ _ (i := nN v) (by omega)) dX7_ofWell_116 ?_
                refine g_goto X (tgt := 146) dX7_ofWell_117 (by decide) ?_
                refine g_lv _ [] rfl ?_
                exact J14 _ (by rw [if_pos (c := ¬ q = 0) h7, if_pos (c := ¬ q = (nI 1)) h8, if_pos (c := ¬ q = (nI 2)) h9, if_pos (c := ¬ q = (nI 3)) h10, if_neg (c := ¬ q = (nI 4)) (fun z => z h11)])
            · --
              refine g_aload_n X 0 dX7_ofWell_91 rfl rfl ?_
              refine g_get X (C := RX7) (T := TX7) (N := 21) (v := .ref (h 1)) inlX7 0 rfl rfl 1 (Nat.le_of_ble_eq_true rfl) kF_X7_7 rfl dX7_ofWell_92 ?_
              refine g_bipush X (v := nI 58) dX7_ofWell_95 (by decide +kernel) ?_
              refine g_iload_n X 1 dX7_ofWell_97 rfl rfl ?_
              refine g_iadd X (v := nI (nN v + 58)) dX7_ofWell_98 ((congrArg (nI 58 + ·) evn).trans ((nI_add _ _).trans (congrArg nI (by omega)))) ?_
              refine g_lald X 1 rfl (58 + (nN v)) (congrArg nI (show nN v + 58 = 58 + (nN v) by omega)) (by omega) (Nat.le_of_ble_eq_true rfl) (v := S 5 (nN v)) (fl_5 _ _ (i := nN v) (by omega)) dX7_ofWell_99 ?_
              refine g_goto X (tgt := 146) dX7_ofWell_100 (by decide) ?_
              refine g_lv _ [] rfl ?_
              exact J14 _ (by rw [if_pos (c := ¬ q = 0) h7, if_pos (c := ¬ q = (nI 1)) h8, if_pos (c := ¬ q = (nI 2)) h9, if_neg (c := ¬ q = (nI 3)) (fun z => z h10)])
          · --
            refine g_aload_n X 0 dX7_ofWell_74 rfl rfl ?_
            refine g_get X (C := RX7) (T := TX7) (N := 21) (v := .ref (h 1)) inlX7 0 rfl rfl 1 (Nat.le_of_ble_eq_true rfl) kF_X7_7 rfl dX7_ofWell_75 ?_
            refine g_bipush X (v := nI 48) dX7_ofWell_78 (by decide +kernel) ?_
            refine g_iload_n X 1 dX7_ofWell_80 rfl rfl ?_
            refine g_iadd X (v := nI (nN v + 48)) dX7_ofWell_81 ((congrArg (nI 48 + ·) evn).trans ((nI_add _ _).trans (congrArg nI (by omega)))) ?_
            refine g_lald X 1 rfl (48 + (nN v)) (congrArg nI (show nN v + 48 = 48 + (nN v) by omega)) (by omega) (Nat.le_of_ble_eq_true rfl) (v := S 4 (nN v)) (fl_4 _ _ (i := nN v) (by omega)) dX7_ofWell_82 ?_
            refine g_goto X (tgt := 146) dX7_ofWell_83 (by decide) ?_
            refine g_lv _ [] rfl ?_
            exact J14 _ (by rw [if_pos (c := ¬ q = 0) h7, if_pos (c := ¬ q = (nI 1)) h8, if_neg (c := ¬ q = (nI 2)) (fun z => z h9)])
        · --
          refine g_aload_n X 0 dX7_ofWell_59 rfl rfl ?_
          refine g_get X (C := RX7) (T := TX7) (N := 21) (v := .ref (h 7)) inlX7 0 rfl rfl 9 (Nat.le_of_ble_eq_true rfl) kF_X7_30 rfl dX7_ofWell_60 ?_
          refine g_iload_n X 1 dX7_ofWell_63 rfl rfl ?_
          refine g_iald X 7 rfl (nN v) evn (by omega) (Nat.le_of_ble_eq_true rfl) (v := C 4 (nN v)) rfl dX7_ofWell_64 ?_
          refine g_i2l X (v := (C 4 (nN v)).toInt64) dX7_ofWell_65 rfl ?_
          refine g_goto X (tgt := 146) dX7_ofWell_66 (by decide) ?_
          refine g_lv _ [] rfl ?_
          exact J14 _ (by rw [if_pos (c := ¬ q = 0) h7, if_neg (c := ¬ q = (nI 1)) (fun z => z h8)])
      · --
        refine g_aload_n X 0 dX7_ofWell_44 rfl rfl ?_
        refine g_get X (C := RX7) (T := TX7) (N := 21) (v := .ref (h 5)) inlX7 0 rfl rfl 7 (Nat.le_of_ble_eq_true rfl) kF_X7_23 rfl dX7_ofWell_45 ?_
        refine g_iload_n X 1 dX7_ofWell_48 rfl rfl ?_
        refine g_iald X 5 rfl (nN v) evn (by omega) (Nat.le_of_ble_eq_true rfl) (v := C 2 (nN v)) rfl dX7_ofWell_49 ?_
        refine g_i2l X (v := (C 2 (nN v)).toInt64) dX7_ofWell_50 rfl ?_
        refine g_goto X (tgt := 146) dX7_ofWell_51 (by decide) ?_
        refine g_lv _ [] rfl ?_
        exact J14 _ (by rw [if_neg (c := ¬ q = 0) (fun z => z h7)])
    · --
      have hc1 : ¬ cI2 (N 0) v q (nI 0) (nI 6) = 0 := fun z => absurd (show th5 ≤ 0 by rw [eth5, ev3, z]; decide) (by assumption)
      refine g_lconst X (v := 0) dX7_ofWell_38 (by decide +kernel) ?_
      refine g_lret X hr hlk hQ dX7_ofWell_39 ?_
      show g_eq _ _ _ _
      try rw [eth5]
      try rw [ev3]
      refine ⟨?_, rfl⟩
      rw [if_neg hc1]
  refine g_bI_ne X (tgt := 13) dX7_ofWell_6 (by decide) (fun h1 => ?_) (fun h1 => ?_)
  · --
    refine g_iload_n X 2 dX7_ofWell_13 rfl rfl ?_
    refine g_iconst X (v := nI 0) dX7_ofWell_14 (by decide +kernel) ?_
    refine g_bipush X (v := nI 6) dX7_ofWell_15 (by decide +kernel) ?_
    refine g_callS X (As := [.int q, .int (nI 0), .int (nI 6)]) (rest := [.ref (h 0)]) (m_X7_in l D cI cJ cZ q (nI 0) (nI 6) ) kM_X7_68 kT_yX7_in kZ_RX7 kC_yX7_in hV_X7_in rfl rfl rfl ⟨Nat.le_of_ble_eq_true rfl, Nat.le_of_ble_eq_true rfl⟩ ⟨Nat.le_of_ble_eq_true rfl, Nat.le_of_ble_eq_true rfl⟩ (Nat.le_of_ble_eq_true rfl) dX7_ofWell_17 rfl [] rfl rfl (g_kk1 (w2 := wM h cI cJ cZ th C N S Qk K P Y) ⟨[], [0, 1, 2, 3, 4, 5, 6, 7, 8, 9, 10, 11, 12, 13, 14, 15, 16], [0, 1, 2, 3, 4, 5, 6, 7, 8, 9, 10, 11, 12, 13, 14, 15, 16], ([0, 1, 2, 3, 4, 5, 6, 7, 8, 9, 10, 11, 12, 13, 14, 15, 16].filterMap fun i => (wM h cI cJ cZ th C N S Qk K P Y)[i]?), rfl, rfl, rfl, rfl, by decide, rfl, rfl⟩ ?_)
    refine g_bI_ne X (tgt := 27) dX7_ofWell_20 (by decide) (fun h2 => ?_) (fun h2 => ?_)
    · --
      refine g_iconst X (v := nI 0) dX7_ofWell_27 (by decide +kernel) ?_
      exact J4 _ (by rw [if_pos (c := (inB v (nI 0) (nI (N 0) - nI 1)) = true) h1, if_pos (c := (inB q (nI 0) (nI 6)) = true) h2])
    · --
      refine g_iconst X (v := nI 2) dX7_ofWell_23 (by decide +kernel) ?_
      refine g_goto X (tgt := 28) dX7_ofWell_24 (by decide) ?_
      exact J4 _ (by rw [if_pos (c := (inB v (nI 0) (nI (N 0) - nI 1)) = true) h1, if_neg (c := (inB q (nI 0) (nI 6)) = true) (by rw [h2]; decide)])
  · --
    refine g_iconst X (v := nI 1) dX7_ofWell_9 (by decide +kernel) ?_
    refine g_goto X (tgt := 28) dX7_ofWell_10 (by decide) ?_
    exact J4 _ (by rw [if_neg (c := (inB v (nI 0) (nI (N 0) - nI 1)) = true) (by rw [h1]; decide)])
def tsM (C : Cf) (N : Nat → Nat) (S : St) (v q : Int32) : Int64 := if ¬ q = 0 then (if ¬ q = nI 1 then (if ¬ q = nI 2 then (if ¬ q = nI 3 then (blm S (nN v) (N 0)).1.toInt64 else S 10 (nN v)) else (C 9 (nN v)).toInt64) else S 9 (nN v)) else (C 7 (nN v)).toInt64

theorem hV_X7_ofSpring : yX7_ofSpring.cls = RX7 ∧ yX7_ofSpring.cls ≠ "java/lang/invoke/MethodHandle" ∧ yX7_ofSpring.cls ≠ "java/lang/invoke/VarHandle" ∧ (parseMethodDescriptor yX7_ofSpring.desc).map (fun d => d.parameters.length) = some 2 := by decide +kernel
abbrev rm_X7_ofSpring : Room := { frames := 2, cells := 0, slots := 0, locals := 43 }
set_option maxRecDepth 100000 in
set_option maxHeartbeats 4000000 in
theorem m_X7_ofSpring (l : Launch) (D : va_G) (cI cJ cZ : ClassId) (h : Nat → Nat) (th : Int32) (C : Cf) (N : Nat → Nat) (S : St) (Qk K P : Nat → Int64) (Y : St) (v q : Int32) (hC : Cok C N) : g_Ct l D cI cJ cZ yX7_ofSpring cX7_ofSpring 3 (some .long) rm_X7_ofSpring 0 0 [.ref (h 0), .int v, .int q] (wM h cI cJ cZ th C N S Qk K P Y) (g_eq (some (.long (if cI2 (N 2) v q (nI 0) (nI 4) = 0 then tsM C N S v q else 0))) (wM h cI cJ cZ (nI (cI2 (N 2) v q (nI 0) (nI 4))) C N S Qk K P Y)) := by
  refine g_body RX7 [(0, .ref (h 0)), (1, .int v), (2, .int q)] kH_X7 rfl (Nat.le_of_ble_eq_true rfl) rfl ?_
  intro p e s m args below meth c A X hr hlk hmn Q hQ
  have hN0 := hC.n0
  have hN1 := hC.n1
  have hN2 := hC.n2
  refine g_aload_n X 0 dX7_ofSpring_0 rfl rfl ?_
  refine g_aload_n X 0 dX7_ofSpring_1 rfl rfl ?_
  refine g_iload_n X 1 dX7_ofSpring_2 rfl rfl ?_
  refine g_callV X (As := [.int v]) (rest := [.ref (h 0)]) (m_X7_isSpring l D cI cJ cZ h th C N S Qk K P Y v ) kM_X7_107 kI_yX7_isSpring kS_yX7_isSpring kZ_RX7 kC_yX7_isSpring hV_X7_isSpring rfl rfl rfl 0 rfl (ci := 7) rfl ⟨Nat.le_of_ble_eq_true rfl, Nat.le_of_ble_eq_true rfl⟩ ⟨Nat.le_of_ble_eq_true rfl, Nat.le_of_ble_eq_true rfl⟩ (Nat.le_of_ble_eq_true rfl) dX7_ofSpring_3 rfl [0, 1, 2, 3, 4, 5, 6, 7, 8, 9, 10, 11, 12, 13, 14, 15, 16] rfl rfl (g_kk1 (w2 := wM h cI cJ cZ th C N S Qk K P Y) ⟨[0, 1, 2, 3, 4, 5, 6, 7, 8, 9, 10, 11, 12, 13, 14, 15, 16], [], [0, 1, 2, 3, 4, 5, 6, 7, 8, 9, 10, 11, 12, 13, 14, 15, 16], [], rfl, rfl, rfl, rfl, by decide, rfl, rfl⟩ ?_)
  have J4 : ∀ (v3 : Nat), v3 = (if (inB v (nI 0) (nI (N 2) - nI 1)) = true then if (inB q (nI 0) (nI 4)) = true then 0 else 2 else 1) → g_G p l e rm_X7_ofSpring s m args below meth c D A 3 0 0 Q (wM h cI cJ cZ th C N S Qk K P Y) [(0, .ref (h 0)), (1, .int v), (2, .int q)] 27 [.int (nI v3), .ref (h 0)] := by
    intro v3 ev3
    have bv3 : v3 < 2147483648 := by subst ev3; (repeat' split) <;> omega
    replace ev3 := ev3.trans (show _ = cI2 (N 2) v q (nI 0) (nI 4) from rfl)
    obtain ⟨th5, eth5⟩ : ∃ z : Int32, z = nI v3 := ⟨_, rfl⟩
    refine g_put X (C := RX7) (T := TX7) (N := 21) (ws' := wM h cI cJ cZ th5 C N S Qk K P Y) inlX7 tyX7 tyX7_ok nmX7 0 rfl rfl 0 (Nat.le_of_ble_eq_true rfl) kF_X7_64 rfl rfl rfl (Nat.le_of_ble_eq_true rfl) dX7_ofSpring_27 (by rw [eth5]; first | done | (rfl)) ?_
    refine g_aload_n X 0 dX7_ofSpring_30 rfl rfl ?_
    refine g_get X (C := RX7) (T := TX7) (N := 21) (v := .int th5) inlX7 0 rfl rfl 0 (Nat.le_of_ble_eq_true rfl) kF_X7_64 rfl dX7_ofSpring_31 ?_
    refine g_if_le X (tgt := 39) dX7_ofSpring_34 (by decide) (fun h6 => ?_) (fun h6 => ?_)
    · --
      have hc0 : cI2 (N 2) v q (nI 0) (nI 4) = 0 := le0_n (cI2_3 _ _ _ _ _) (by rw [← ev3, ← eth5]; assumption)
      obtain ⟨hvn, evn⟩ := inB_m (by omega) (cI2_0 hc0).1
      refine g_iload_n X 2 dX7_ofSpring_39 rfl rfl ?_
      have J12 : ∀ (v11 : Int64), v11 = (if ¬ q = 0 then if ¬ q = (nI 1) then if ¬ q = (nI 2) then if ¬ q = (nI 3) then ((blm S (nN v) (N 0)).1).toInt64 else S 10 (nN v) else (C 9 (nN v)).toInt64 else S 9 (nN v) else (C 7 (nN v)).toInt64) → g_G p l e rm_X7_ofSpring s m args below meth c D A 3 0 0 Q (wM h cI cJ cZ th5 C N S Qk K P Y) [] 108 [.long v11] := by
        intro v11 ev11
        replace ev11 := ev11.trans (show _ = tsM C N S v q from rfl)
        refine g_lret X hr hlk hQ dX7_ofSpring_108 ?_
        show g_eq _ _ _ _
        try rw [ev11]
        try rw [eth5]
        try rw [ev3]
        refine ⟨?_, rfl⟩
        rw [if_pos hc0]
      refine g_if_ne X (tgt := 53) dX7_ofSpring_40 (by decide) (fun h7 => ?_) (fun h7 => ?_)
      · --
        refine g_iload_n X 2 dX7_ofSpring_53 rfl rfl ?_
        refine g_iconst X (v := nI 1) dX7_ofSpring_54 (by decide +kernel) ?_
        refine g_icmp_ne X (tgt := 70) dX7_ofSpring_55 (by decide) (fun h8 => ?_) (fun h8 => ?_)
        · --
          refine g_iload_n X 2 dX7_ofSpring_70 rfl rfl ?_
          refine g_iconst X (v := nI 2) dX7_ofSpring_71 (by decide +kernel) ?_
          refine g_icmp_ne X (tgt := 85) dX7_ofSpring_72 (by decide) (fun h9 => ?_) (fun h9 => ?_)
          · --
            refine g_iload_n X 2 dX7_ofSpring_85 rfl rfl ?_
            refine g_iconst X (v := nI 3) dX7_ofSpring_86 (by decide +kernel) ?_
            refine g_icmp_ne X (tgt := 102) dX7_ofSpring_87 (by decide) (fun h10 => ?_) (fun h10 => ?_)
            · --
              refine g_aload_n X 0 dX7_ofSpring_102 rfl rfl ?_
              refine g_iload_n X 1 dX7_ofSpring_103 rfl rfl ?_
              refine g_st (st' := [.int (nI (nN v)), .ref (h 0)]) (by rw [← evn]; first | done | rfl) ?_
              refine g_callV X (As := [.int (nI (nN v))]) (rest := []) (m_X7_toBlame l D cI cJ cZ h th5 C N S Qk K P Y (nN v) hC (by omega)) kM_X7_192 kI_yX7_toBlame kS_yX7_toBlame kZ_RX7 kC_yX7_toBlame hV_X7_toBlame rfl rfl rfl 0 rfl (ci := 7) rfl ⟨Nat.le_of_ble_eq_true rfl, Nat.le_of_ble_eq_true rfl⟩ ⟨Nat.le_of_ble_eq_true rfl, Nat.le_of_ble_eq_true rfl⟩ (Nat.le_of_ble_eq_true rfl) dX7_ofSpring_104 rfl [0, 1, 2, 3, 4, 5, 6, 7, 8, 9, 10, 11, 12, 13, 14, 15, 16] rfl rfl (g_kk1 (w2 := wM h cI cJ cZ th5 C N S Qk K P Y) ⟨[0, 1, 2, 3, 4, 5, 6, 7, 8, 9, 10, 11, 12, 13, 14, 15, 16], [], [0, 1, 2, 3, 4, 5, 6, 7, 8, 9, 10, 11, 12, 13, 14, 15, 16], [], rfl, rfl, rfl, rfl, by decide, rfl, rfl⟩ ?_)
              refine g_i2l X (v := ((blm S (nN v) (N 0)).1).toInt64) dX7_ofSpring_107 rfl ?_
              refine g_lv _ [] rfl ?_
              exact J12 _ (by rw [if_pos (c := ¬ q = 0) h7, if_pos (c := ¬ q = (nI 1)) h8, if_pos (c := ¬ q = (nI 2)) h9, if_pos (c := ¬ q = (nI 3)) h10])
            · --
              refine g_aload_n X 0 dX7_ofSpring_90 rfl rfl ?_
              refine g_get X (C := RX7) (T := TX7) (N := 21) (v := .ref (h 1)) inlX7 0 rfl rfl 1 (Nat.le_of_ble_eq_true rfl) kF_X7_7 rfl dX7_ofSpring_91 ?_
              refine g_bipush X (v := nI 102) dX7_ofSpring_94 (by decide +kernel) ?_
              refine g_iload_n X 1 dX7_ofSpring_96 rfl rfl ?_
              refine g_iadd X (v := nI (nN v + 102)) dX7_ofSpring_97 ((congrArg (nI 102 + ·) evn).trans ((nI_add _ _).trans (congrArg nI (by omega)))) ?_
              refine g_lald X 1 rfl (102 + (nN v)) (congrArg nI (show nN v + 102 = 102 + (nN v) by omega)) (by omega) (Nat.le_of_ble_eq_true rfl) (v := S 10 (nN v)) (fl_10 _ _ (i := nN v) (by omega)) dX7_ofSpring_98 ?_
              refine g_goto X (tgt := 108) dX7_ofSpring_99 (by decide) ?_
              refine g_lv _ [] rfl ?_
              exact J12 _ (by rw [if_pos (c := ¬ q = 0) h7, if_pos (c := ¬ q = (nI 1)) h8, if_pos (c := ¬ q = (nI 2)) h9, if_neg (c := ¬ q = (nI 3)) (fun z => z h10)])
          · --
            refine g_aload_n X 0 dX7_ofSpring_75 rfl rfl ?_
            refine g_get X (C := RX7) (T := TX7) (N := 21) (v := .ref (h 13)) inlX7 0 rfl rfl 17 (Nat.le_of_ble_eq_true rfl) kF_X7_48 rfl dX7_ofSpring_76 ?_
            refine g_iload_n X 1 dX7_ofSpring_79 rfl rfl ?_
            refine g_iald X 13 rfl (nN v) evn (by omega) (Nat.le_of_ble_eq_true rfl) (v := C 9 (nN v)) rfl dX7_ofSpring_80 ?_
            refine g_i2l X (v := (C 9 (nN v)).toInt64) dX7_ofSpring_81 rfl ?_
            refine g_goto X (tgt := 108) dX7_ofSpring_82 (by decide) ?_
            refine g_lv _ [] rfl ?_
            exact J12 _ (by rw [if_pos (c := ¬ q = 0) h7, if_pos (c := ¬ q = (nI 1)) h8, if_neg (c := ¬ q = (nI 2)) (fun z => z h9)])
        · --
          refine g_aload_n X 0 dX7_ofSpring_58 rfl rfl ?_
          refine g_get X (C := RX7) (T := TX7) (N := 21) (v := .ref (h 1)) inlX7 0 rfl rfl 1 (Nat.le_of_ble_eq_true rfl) kF_X7_7 rfl dX7_ofSpring_59 ?_
          refine g_bipush X (v := nI 98) dX7_ofSpring_62 (by decide +kernel) ?_
          refine g_iload_n X 1 dX7_ofSpring_64 rfl rfl ?_
          refine g_iadd X (v := nI (nN v + 98)) dX7_ofSpring_65 ((congrArg (nI 98 + ·) evn).trans ((nI_add _ _).trans (congrArg nI (by omega)))) ?_
          refine g_lald X 1 rfl (98 + (nN v)) (congrArg nI (show nN v + 98 = 98 + (nN v) by omega)) (by omega) (Nat.le_of_ble_eq_true rfl) (v := S 9 (nN v)) (fl_9 _ _ (i := nN v) (by omega)) dX7_ofSpring_66 ?_
          refine g_goto X (tgt := 108) dX7_ofSpring_67 (by decide) ?_
          refine g_lv _ [] rfl ?_
          exact J12 _ (by rw [if_pos (c := ¬ q = 0) h7, if_neg (c := ¬ q = (nI 1)) (fun z => z h8)])
      · --
        refine g_aload_n X 0 dX7_ofSpring_43 rfl rfl ?_
        refine g_get X (C := RX7) (T := TX7) (N := 21) (v := .ref (h 11)) inlX7 0 rfl rfl 15 (Nat.le_of_ble_eq_true rfl) kF_X7_42 rfl dX7_ofSpring_44 ?_
        refine g_iload_n X 1 dX7_ofSpring_47 rfl rfl ?_
        refine g_iald X 11 rfl (nN v) evn (by omega) (Nat.le_of_ble_eq_true rfl) (v := C 7 (nN v)) rfl dX7_ofSpring_48 ?_
        refine g_i2l X (v := (C 7 (nN v)).toInt64) dX7_ofSpring_49 rfl ?_
        refine g_goto X (tgt := 108) dX7_ofSpring_50 (by decide) ?_
        refine g_lv _ [] rfl ?_
        exact J12 _ (by rw [if_neg (c := ¬ q = 0) (fun z => z h7)])
    · --
      have hc1 : ¬ cI2 (N 2) v q (nI 0) (nI 4) = 0 := fun z => absurd (show th5 ≤ 0 by rw [eth5, ev3, z]; decide) (by assumption)
      refine g_lconst X (v := 0) dX7_ofSpring_37 (by decide +kernel) ?_
      refine g_lret X hr hlk hQ dX7_ofSpring_38 ?_
      show g_eq _ _ _ _
      try rw [eth5]
      try rw [ev3]
      refine ⟨?_, rfl⟩
      rw [if_neg hc1]
  refine g_bI_ne X (tgt := 13) dX7_ofSpring_6 (by decide) (fun h1 => ?_) (fun h1 => ?_)
  · --
    refine g_iload_n X 2 dX7_ofSpring_13 rfl rfl ?_
    refine g_iconst X (v := nI 0) dX7_ofSpring_14 (by decide +kernel) ?_
    refine g_iconst X (v := nI 4) dX7_ofSpring_15 (by decide +kernel) ?_
    refine g_callS X (As := [.int q, .int (nI 0), .int (nI 4)]) (rest := [.ref (h 0)]) (m_X7_in l D cI cJ cZ q (nI 0) (nI 4) ) kM_X7_68 kT_yX7_in kZ_RX7 kC_yX7_in hV_X7_in rfl rfl rfl ⟨Nat.le_of_ble_eq_true rfl, Nat.le_of_ble_eq_true rfl⟩ ⟨Nat.le_of_ble_eq_true rfl, Nat.le_of_ble_eq_true rfl⟩ (Nat.le_of_ble_eq_true rfl) dX7_ofSpring_16 rfl [] rfl rfl (g_kk1 (w2 := wM h cI cJ cZ th C N S Qk K P Y) ⟨[], [0, 1, 2, 3, 4, 5, 6, 7, 8, 9, 10, 11, 12, 13, 14, 15, 16], [0, 1, 2, 3, 4, 5, 6, 7, 8, 9, 10, 11, 12, 13, 14, 15, 16], ([0, 1, 2, 3, 4, 5, 6, 7, 8, 9, 10, 11, 12, 13, 14, 15, 16].filterMap fun i => (wM h cI cJ cZ th C N S Qk K P Y)[i]?), rfl, rfl, rfl, rfl, by decide, rfl, rfl⟩ ?_)
    refine g_bI_ne X (tgt := 26) dX7_ofSpring_19 (by decide) (fun h2 => ?_) (fun h2 => ?_)
    · --
      refine g_iconst X (v := nI 0) dX7_ofSpring_26 (by decide +kernel) ?_
      exact J4 _ (by rw [if_pos (c := (inB v (nI 0) (nI (N 2) - nI 1)) = true) h1, if_pos (c := (inB q (nI 0) (nI 4)) = true) h2])
    · --
      refine g_iconst X (v := nI 2) dX7_ofSpring_22 (by decide +kernel) ?_
      refine g_goto X (tgt := 27) dX7_ofSpring_23 (by decide) ?_
      exact J4 _ (by rw [if_pos (c := (inB v (nI 0) (nI (N 2) - nI 1)) = true) h1, if_neg (c := (inB q (nI 0) (nI 4)) = true) (by rw [h2]; decide)])
  · --
    refine g_iconst X (v := nI 1) dX7_ofSpring_9 (by decide +kernel) ?_
    refine g_goto X (tgt := 27) dX7_ofSpring_10 (by decide) ?_
    exact J4 _ (by rw [if_neg (c := (inB v (nI 0) (nI (N 2) - nI 1)) = true) (by rw [h1]; decide)])
def kpM (S : St) : Nat := if 60 ≤ S 14 0 then 60 else qN S
def cQ2 (S : St) (v q : Int32) : Nat := cI2 (kpM S) v q (nI 0) (nI 2)
theorem kp_m {S : St} (h : S 14 0 = lN (qN S) ∧ qN S ≤ 900000) : kpM S ≤ 60 := by
  unfold kpM
  by_cases h6 : 60 ≤ S 14 0
  · rw [if_pos h6]
    decide
  · rw [if_neg h6]
    exact Nat.le_of_lt (Nat.lt_of_not_le (fun z => h6 ((q_30 h).mpr z)))

theorem hV_X7_quake : yX7_quake.cls = RX7 ∧ yX7_quake.cls ≠ "java/lang/invoke/MethodHandle" ∧ yX7_quake.cls ≠ "java/lang/invoke/VarHandle" ∧ (parseMethodDescriptor yX7_quake.desc).map (fun d => d.parameters.length) = some 2 := by decide +kernel
abbrev rm_X7_quake : Room := { frames := 1, cells := 0, slots := 0, locals := 22 }
set_option maxRecDepth 100000 in
set_option maxHeartbeats 4000000 in
theorem m_X7_quake (l : Launch) (D : va_G) (cI cJ cZ : ClassId) (h : Nat → Nat) (th : Int32) (C : Cf) (N : Nat → Nat) (S : St) (Qk K P : Nat → Int64) (Y : St) (v q : Int32) (hq : S 14 0 = lN (qN S) ∧ qN S ≤ 900000) : g_Ct l D cI cJ cZ yX7_quake cX7_quake 4 (some .int) rm_X7_quake 0 0 [.ref (h 0), .int v, .int q] (wM h cI cJ cZ th C N S Qk K P Y) (g_eq (some (.int (if cI2 (kpM S) v q (nI 0) (nI 2) = 0 then (Qk (3 * nN v + nN q)).toInt32 else nI 0))) (wM h cI cJ cZ (nI (cI2 (kpM S) v q (nI 0) (nI 2))) C N S Qk K P Y)) := by
  refine g_body RX7 [(0, .ref (h 0)), (1, .int v), (2, .int q)] kH_X7 rfl (Nat.le_of_ble_eq_true rfl) rfl ?_
  intro p e s m args below meth c A X hr hlk hmn Q hQ
  have hq2 := hq.2
  have hkp := kp_m hq
  refine g_aload_n X 0 dX7_quake_0 rfl rfl ?_
  refine g_get X (C := RX7) (T := TX7) (N := 21) (v := .ref (h 1)) inlX7 0 rfl rfl 1 (Nat.le_of_ble_eq_true rfl) kF_X7_7 rfl dX7_quake_1 ?_
  refine g_sipush X (v := nI 155) dX7_quake_4 (by decide +kernel) ?_
  refine g_lald X 1 rfl (155 + 0) (congrArg nI (show 155 = 155 + 0 by omega)) (by omega) (Nat.le_of_ble_eq_true rfl) (v := S 14 0) (fl_14 _ _ (i := 0) (by omega)) dX7_quake_7 ?_
  refine g_ldc2 X kL_X7_141 dX7_quake_8 ?_
  have J3 : ∀ (v2 : Nat), v2 = (if (60 : Int64) ≤ (S 14 0) then 60 else qN S) → g_G p l e rm_X7_quake s m args below meth c D A 4 0 0 Q (wM h cI cJ cZ th C N S Qk K P Y) [(0, .ref (h 0)), (1, .int v), (2, .int q)] 29 [.int (nI v2)] := by
    intro v2 ev2
    have bv2 : v2 < 2147483648 := by subst ev2; (repeat' split) <;> omega
    replace ev2 := ev2.trans (show _ = kpM S from rfl)
    refine g_istore_n X [(3, .int (nI v2)), (0, .ref (h 0)), (1, .int v), (2, .int q)] dX7_quake_29 rfl (Nat.le_of_ble_eq_true rfl) rfl ?_
    refine g_aload_n X 1 dX7_quake_30 rfl rfl ?_
    refine g_iload_n X 2 dX7_quake_31 rfl rfl ?_
    refine g_iconst X (v := nI 0) dX7_quake_32 (by decide +kernel) ?_
    refine g_iload_n X 0 dX7_quake_33 rfl rfl ?_
    refine g_iconst X (v := nI 1) dX7_quake_34 (by decide +kernel) ?_
    refine g_isub X (v := (nI v2) - (nI 1)) dX7_quake_35 rfl ?_
    refine g_callS X (As := [.int v, .int (nI 0), .int ((nI v2) - (nI 1))]) (rest := [.ref (h 0)]) (m_X7_in l D cI cJ cZ v (nI 0) ((nI v2) - (nI 1)) ) kM_X7_68 kT_yX7_in kZ_RX7 kC_yX7_in hV_X7_in rfl rfl rfl ⟨Nat.le_of_ble_eq_true rfl, Nat.le_of_ble_eq_true rfl⟩ ⟨Nat.le_of_ble_eq_true rfl, Nat.le_of_ble_eq_true rfl⟩ (Nat.le_of_ble_eq_true rfl) dX7_quake_36 rfl [] rfl rfl (g_kk1 (w2 := wM h cI cJ cZ th C N S Qk K P Y) ⟨[], [0, 1, 2, 3, 4, 5, 6, 7, 8, 9, 10, 11, 12, 13, 14, 15, 16], [0, 1, 2, 3, 4, 5, 6, 7, 8, 9, 10, 11, 12, 13, 14, 15, 16], ([0, 1, 2, 3, 4, 5, 6, 7, 8, 9, 10, 11, 12, 13, 14, 15, 16].filterMap fun i => (wM h cI cJ cZ th C N S Qk K P Y)[i]?), rfl, rfl, rfl, rfl, by decide, rfl, rfl⟩ ?_)
    have J7 : ∀ (v6 : Nat), v6 = (if (inB v (nI 0) ((nI v2) - (nI 1))) = true then if (inB q (nI 0) (nI 2)) = true then 0 else 2 else 1) → g_G p l e rm_X7_quake s m args below meth c D A 4 0 0 Q (wM h cI cJ cZ th C N S Qk K P Y) [(0, .ref (h 0)), (1, .int v), (2, .int q)] 60 [.int (nI v6), .ref (h 0)] := by
      intro v6 ev6
      have bv6 : v6 < 2147483648 := by subst ev6; (repeat' split) <;> omega
      replace ev6 : v6 = cI2 (kpM S) v q (nI 0) (nI 2) := by rw [ev6, ev2]; rfl
      obtain ⟨th8, eth8⟩ : ∃ z : Int32, z = nI v6 := ⟨_, rfl⟩
      refine g_put X (C := RX7) (T := TX7) (N := 21) (ws' := wM h cI cJ cZ th8 C N S Qk K P Y) inlX7 tyX7 tyX7_ok nmX7 0 rfl rfl 0 (Nat.le_of_ble_eq_true rfl) kF_X7_64 rfl rfl rfl (Nat.le_of_ble_eq_true rfl) dX7_quake_60 (by rw [eth8]; first | done | (rfl)) ?_
      refine g_aload_n X 0 dX7_quake_63 rfl rfl ?_
      refine g_get X (C := RX7) (T := TX7) (N := 21) (v := .int th8) inlX7 0 rfl rfl 0 (Nat.le_of_ble_eq_true rfl) kF_X7_64 rfl dX7_quake_64 ?_
      refine g_if_le X (tgt := 74) dX7_quake_67 (by decide) (fun h9 => ?_) (fun h9 => ?_)
      · --
        have hc0 : cI2 (kpM S) v q (nI 0) (nI 2) = 0 := le0_n (cI2_3 _ _ _ _ _) (by rw [← ev6, ← eth8]; assumption)
        obtain ⟨hvn, evn⟩ := inB_m (by omega) (cI2_0 hc0).1
        obtain ⟨hqn, eqn⟩ := inB_n (by decide) (cI2_0 hc0).2
        refine g_aload_n X 0 dX7_quake_74 rfl rfl ?_
        refine g_get X (C := RX7) (T := TX7) (N := 21) (v := .ref (h 1)) inlX7 0 rfl rfl 1 (Nat.le_of_ble_eq_true rfl) kF_X7_7 rfl dX7_quake_75 ?_
        refine g_sipush X (v := nI 156) dX7_quake_78 (by decide +kernel) ?_
        refine g_iconst X (v := nI 3) dX7_quake_81 (by decide +kernel) ?_
        refine g_iload_n X 1 dX7_quake_82 rfl rfl ?_
        refine g_imul X (v := nI (3 * nN v)) dX7_quake_83 ((congrArg (nI 3 * ·) evn).trans (pk_mul _ _)) ?_
        refine g_iadd X (v := nI (3 * nN v + 156)) dX7_quake_84 ((nI_add _ _).trans (congrArg nI (by omega))) ?_
        refine g_iload_n X 2 dX7_quake_85 rfl rfl ?_
        refine g_iadd X (v := nI (3 * nN v + nN q + 156)) dX7_quake_86 ((congrArg (nI (3 * nN v + 156) + ·) eqn).trans ((nI_add _ _).trans (congrArg nI (by omega)))) ?_
        refine g_lald X 1 rfl (156 + (3 * nN v + nN q)) (congrArg nI (show 3 * nN v + nN q + 156 = 156 + (3 * nN v + nN q) by omega)) (by omega) (Nat.le_of_ble_eq_true rfl) (v := Qk (3 * nN v + nN q)) (fl_q _ _ (3 * nN v + nN q)) dX7_quake_87 ?_
        refine g_l2i X (v := (Qk (3 * nN v + nN q)).toInt32) dX7_quake_88 rfl ?_
        refine g_iret X hr hlk hQ dX7_quake_89 ?_
        show g_eq _ _ _ _
        try rw [eth8]
        try rw [ev6]
        try rw [ev2]
        refine ⟨?_, rfl⟩
        rw [if_pos hc0]
      · --
        have hc1 : ¬ cI2 (kpM S) v q (nI 0) (nI 2) = 0 := fun z => absurd (show th8 ≤ 0 by rw [eth8, ev6, z]; decide) (by assumption)
        refine g_iconst X (v := nI 0) dX7_quake_70 (by decide +kernel) ?_
        refine g_goto X (tgt := 89) dX7_quake_71 (by decide) ?_
        refine g_iret X hr hlk hQ dX7_quake_89 ?_
        show g_eq _ _ _ _
        try rw [eth8]
        try rw [ev6]
        try rw [ev2]
        refine ⟨?_, rfl⟩
        rw [if_neg hc1]
    refine g_bI_ne X (tgt := 46) dX7_quake_39 (by decide) (fun h4 => ?_) (fun h4 => ?_)
    · --
      refine g_iload_n X 3 dX7_quake_46 rfl rfl ?_
      refine g_iconst X (v := nI 0) dX7_quake_47 (by decide +kernel) ?_
      refine g_iconst X (v := nI 2) dX7_quake_48 (by decide +kernel) ?_
      refine g_callS X (As := [.int q, .int (nI 0), .int (nI 2)]) (rest := [.ref (h 0)]) (m_X7_in l D cI cJ cZ q (nI 0) (nI 2) ) kM_X7_68 kT_yX7_in kZ_RX7 kC_yX7_in hV_X7_in rfl rfl rfl ⟨Nat.le_of_ble_eq_true rfl, Nat.le_of_ble_eq_true rfl⟩ ⟨Nat.le_of_ble_eq_true rfl, Nat.le_of_ble_eq_true rfl⟩ (Nat.le_of_ble_eq_true rfl) dX7_quake_49 rfl [] rfl rfl (g_kk1 (w2 := wM h cI cJ cZ th C N S Qk K P Y) ⟨[], [0, 1, 2, 3, 4, 5, 6, 7, 8, 9, 10, 11, 12, 13, 14, 15, 16], [0, 1, 2, 3, 4, 5, 6, 7, 8, 9, 10, 11, 12, 13, 14, 15, 16], ([0, 1, 2, 3, 4, 5, 6, 7, 8, 9, 10, 11, 12, 13, 14, 15, 16].filterMap fun i => (wM h cI cJ cZ th C N S Qk K P Y)[i]?), rfl, rfl, rfl, rfl, by decide, rfl, rfl⟩ ?_)
      refine g_bI_ne X (tgt := 59) dX7_quake_52 (by decide) (fun h5 => ?_) (fun h5 => ?_)
      · --
        refine g_iconst X (v := nI 0) dX7_quake_59 (by decide +kernel) ?_
        refine g_lv _ [1, 2, 3] rfl ?_
        exact J7 _ (by rw [if_pos (c := (inB v (nI 0) ((nI v2) - (nI 1))) = true) h4, if_pos (c := (inB q (nI 0) (nI 2)) = true) h5])
      · --
        refine g_iconst X (v := nI 2) dX7_quake_55 (by decide +kernel) ?_
        refine g_goto X (tgt := 60) dX7_quake_56 (by decide) ?_
        refine g_lv _ [1, 2, 3] rfl ?_
        exact J7 _ (by rw [if_pos (c := (inB v (nI 0) ((nI v2) - (nI 1))) = true) h4, if_neg (c := (inB q (nI 0) (nI 2)) = true) (by rw [h5]; decide)])
    · --
      refine g_iconst X (v := nI 1) dX7_quake_42 (by decide +kernel) ?_
      refine g_goto X (tgt := 60) dX7_quake_43 (by decide) ?_
      refine g_lv _ [1, 2, 3] rfl ?_
      exact J7 _ (by rw [if_neg (c := (inB v (nI 0) ((nI v2) - (nI 1))) = true) (by rw [h4]; decide)])
  refine g_lj_ge X (tgt := 27) (pc1 := 12) dX7_quake_11 rfl dX7_quake_12 (by decide) (fun h1 => ?_) (fun h1 => ?_)
  · --
    refine g_bipush X (v := nI 60) dX7_quake_27 (by decide +kernel) ?_
    exact J3 _ (by rw [if_pos (c := (60 : Int64) ≤ (S 14 0)) h1])
  · --
    refine g_aload_n X 0 dX7_quake_15 rfl rfl ?_
    refine g_get X (C := RX7) (T := TX7) (N := 21) (v := .ref (h 1)) inlX7 0 rfl rfl 1 (Nat.le_of_ble_eq_true rfl) kF_X7_7 rfl dX7_quake_16 ?_
    refine g_sipush X (v := nI 155) dX7_quake_19 (by decide +kernel) ?_
    refine g_lald X 1 rfl (155 + 0) (congrArg nI (show 155 = 155 + 0 by omega)) (by omega) (Nat.le_of_ble_eq_true rfl) (v := S 14 0) (fl_14 _ _ (i := 0) (by omega)) dX7_quake_22 ?_
    refine g_l2i X (v := nI (qN S)) dX7_quake_23 (by rw [hq.1]; exact lN_i _) ?_
    refine g_goto X (tgt := 29) dX7_quake_24 (by decide) ?_
    exact J3 _ (by rw [if_neg (c := (60 : Int64) ≤ (S 14 0)) h1])
