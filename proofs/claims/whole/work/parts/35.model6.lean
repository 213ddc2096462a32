/-! what the reference tells -/
def tolM (S : St) (b k : Nat) : Int64 := if ¬ nI k = 0 then (if ¬ k = 1 then (if ¬ k = 2 then (if ¬ k = 3 then (if ¬ k = 4 then (nI (lig S b)).toInt64 else S 3 b) else S 2 b) else S 1 b) else deg S b) else S 0 b
theorem blm_ok (S : St) (k : Nat) : ∀ n, ((blm S k n).1 = -1 ∧ (blm S k n).2 = 0) ∨ ∃ q, q < n ∧ (blm S k n).1 = nI q ∧ (blm S k n).2 = S 11 (10 * k + q)
  | 0 => Or.inl ⟨rfl, rfl⟩
  | n + 1 => by
    rw [blm_s]
    by_cases h : S 11 (10 * k + n) ≤ (blm S k n).2
    · rw [if_pos h]
      rcases blm_ok S k n with h1 | ⟨q, hq, h2⟩
      · exact Or.inl h1
      · exact Or.inr ⟨q, Nat.lt_succ_of_lt hq, h2⟩
    · rw [if_neg h]
      exact Or.inr ⟨n, Nat.lt_succ_self n, rfl, rfl⟩
theorem blm_0 {S : St} {k n : Nat} (h : (blm S k n).1 = -1) (hn : n ≤ 10) : (blm S k n).2 = 0 := by
  rcases blm_ok S k n with h1 | ⟨q, hq, h2⟩
  · exact h1.2
  · rw [h] at h2
    have := h2.1
    exact absurd this (by
      intro e
      have e2 := congrArg Int32.toInt e
      rw [nI_toInt (by omega)] at e2
      have : (-1 : Int32).toInt = -1 := rfl
      omega)
theorem blm_1 {S : St} {k n : Nat} (h : ¬ (blm S k n).1 = -1) : ∃ q, q < n ∧ (blm S k n).1 = nI q ∧ (blm S k n).2 = S 11 (10 * k + q) := by
  rcases blm_ok S k n with h1 | h2
  · exact absurd h1.1 h
  · exact h2

theorem hV_X7_told : yX7_told.cls = RX7 ∧ yX7_told.cls ≠ "java/lang/invoke/MethodHandle" ∧ yX7_told.cls ≠ "java/lang/invoke/VarHandle" ∧ (parseMethodDescriptor yX7_told.desc).map (fun d => d.parameters.length) = some 2 := by decide +kernel
abbrev rm_X7_told : Room := { frames := 1, cells := 0, slots := 0, locals := 21 }
set_option maxRecDepth 100000 in
set_option maxHeartbeats 4000000 in
theorem m_X7_told (l : Launch) (D : va_G) (cI cJ cZ : ClassId) (h : Nat → Nat) (th : Int32) (C : Cf) (N : Nat → Nat) (S : St) (Qk K P : Nat → Int64) (Y : St) (b k : Nat) (hb : b < 12) (hk : k < 6) (hW : Wok S) : g_Ct l D cI cJ cZ yX7_told cX7_told 3 (some .long) rm_X7_told 0 0 [.ref (h 0), .int (nI b), .int (nI k)] (wM h cI cJ cZ th C N S Qk K P Y) (g_eq (some (.long (tolM S b k))) (wM h cI cJ cZ th C N S Qk K P Y)) := by
  refine g_body RX7 [(0, .ref (h 0)), (1, .int (nI b)), (2, .int (nI k))] kH_X7 rfl (Nat.le_of_ble_eq_true rfl) rfl ?_
  intro p e s m args below meth c A X hr hlk hmn Q hQ
  have hlig := lig_3 S b
  refine g_iload_n X 2 dX7_told_0 rfl rfl ?_
  have J7 : ∀ (v6 : Int64), v6 = (if ¬ (nI k) = 0 then if ¬ k = 1 then if ¬ k = 2 then if ¬ k = 3 then if ¬ k = 4 then (nI (lig S b)).toInt64 else S 3 b else S 2 b else S 1 b else deg S b else S 0 b) → g_G p l e rm_X7_told s m args below meth c D A 3 0 0 Q (wM h cI cJ cZ th C N S Qk K P Y) [] 85 [.long v6] := by
    intro v6 ev6
    refine g_lret X hr hlk hQ dX7_told_85 ?_
    show g_eq _ _ _ _
    try rw [ev6]
    exact ⟨rfl, rfl⟩
  refine g_if_ne X (tgt := 15) dX7_told_1 (by decide) (fun h1 => ?_) (fun h1 => ?_)
  · --
    refine g_iload_n X 2 dX7_told_15 rfl rfl ?_
    refine g_iconst X (v := nI 1) dX7_told_16 (by decide +kernel) ?_
    refine g_icN_ne X (a := k) (b := 1) (tgt := 28) (by omega) (by omega) dX7_told_17 (by decide) (fun h2 => ?_) (fun h2 => ?_)
    · --
      refine g_iload_n X 2 dX7_told_28 rfl rfl ?_
      refine g_iconst X (v := nI 2) dX7_told_29 (by decide +kernel) ?_
      refine g_icN_ne X (a := k) (b := 2) (tgt := 45) (by omega) (by omega) dX7_told_30 (by decide) (fun h3 => ?_) (fun h3 => ?_)
      · --
        refine g_iload_n X 2 dX7_told_45 rfl rfl ?_
        refine g_iconst X (v := nI 3) dX7_told_46 (by decide +kernel) ?_
        refine g_icN_ne X (a := k) (b := 3) (tgt := 62) (by omega) (by omega) dX7_told_47 (by decide) (fun h4 => ?_) (fun h4 => ?_)
        · --
          refine g_iload_n X 2 dX7_told_62 rfl rfl ?_
          refine g_iconst X (v := nI 4) dX7_told_63 (by decide +kernel) ?_
          refine g_icN_ne X (a := k) (b := 4) (tgt := 79) (by omega) (by omega) dX7_told_64 (by decide) (fun h5 => ?_) (fun h5 => ?_)
          · --
            refine g_aload_n X 0 dX7_told_79 rfl rfl ?_
            refine g_iload_n X 1 dX7_told_80 rfl rfl ?_
            refine g_callV X (As := [.int (nI b)]) (rest := []) (m_X7_light l D cI cJ cZ h th C N S Qk K P Y b hb) kM_X7_118 kI_yX7_light kS_yX7_light kZ_RX7 kC_yX7_light hV_X7_light rfl rfl rfl 0 rfl (ci := 7) rfl ⟨Nat.le_of_ble_eq_true rfl, Nat.le_of_ble_eq_true rfl⟩ ⟨Nat.le_of_ble_eq_true rfl, Nat.le_of_ble_eq_true rfl⟩ (Nat.le_of_ble_eq_true rfl) dX7_told_81 rfl [0, 1, 2, 3, 4, 5, 6, 7, 8, 9, 10, 11, 12, 13, 14, 15, 16] rfl rfl (g_kk1 (w2 := wM h cI cJ cZ th C N S Qk K P Y) ⟨[0, 1, 2, 3, 4, 5, 6, 7, 8, 9, 10, 11, 12, 13, 14, 15, 16], [], [0, 1, 2, 3, 4, 5, 6, 7, 8, 9, 10, 11, 12, 13, 14, 15, 16], [], rfl, rfl, rfl, rfl, by decide, rfl, rfl⟩ ?_)
            refine g_i2l X (v := (nI (lig S b)).toInt64) dX7_told_84 rfl ?_
            refine g_lv _ [] rfl ?_
            exact J7 _ (by rw [if_pos (c := ¬ (nI k) = 0) h1, if_pos (c := ¬ k = 1) h2, if_pos (c := ¬ k = 2) h3, if_pos (c := ¬ k = 3) h4, if_pos (c := ¬ k = 4) h5])
          · --
            refine g_aload_n X 0 dX7_told_67 rfl rfl ?_
            refine g_get X (C := RX7) (T := TX7) (N := 21) (v := .ref (h 1)) inlX7 0 rfl rfl 1 (Nat.le_of_ble_eq_true rfl) kF_X7_7 rfl dX7_told_68 ?_
            refine g_bipush X (v := nI 36) dX7_told_71 (by decide +kernel) ?_
            refine g_iload_n X 1 dX7_told_73 rfl rfl ?_
            refine g_iadd X (v := nI (b + 36)) dX7_told_74 ((nI_add _ _).trans (congrArg nI (by omega))) ?_
            refine g_lald X 1 rfl (36 + b) (congrArg nI (show b + 36 = 36 + b by omega)) (by omega) (Nat.le_of_ble_eq_true rfl) (v := S 3 b) (fl_3 _ _ (i := b) (by omega)) dX7_told_75 ?_
            refine g_goto X (tgt := 85) dX7_told_76 (by decide) ?_
            refine g_lv _ [] rfl ?_
            exact J7 _ (by rw [if_pos (c := ¬ (nI k) = 0) h1, if_pos (c := ¬ k = 1) h2, if_pos (c := ¬ k = 2) h3, if_pos (c := ¬ k = 3) h4, if_neg (c := ¬ k = 4) (fun z => z h5)])
        · --
          refine g_aload_n X 0 dX7_told_50 rfl rfl ?_
          refine g_get X (C := RX7) (T := TX7) (N := 21) (v := .ref (h 1)) inlX7 0 rfl rfl 1 (Nat.le_of_ble_eq_true rfl) kF_X7_7 rfl dX7_told_51 ?_
          refine g_bipush X (v := nI 24) dX7_told_54 (by decide +kernel) ?_
          refine g_iload_n X 1 dX7_told_56 rfl rfl ?_
          refine g_iadd X (v := nI (b + 24)) dX7_told_57 ((nI_add _ _).trans (congrArg nI (by omega))) ?_
          refine g_lald X 1 rfl (24 + b) (congrArg nI (show b + 24 = 24 + b by omega)) (by omega) (Nat.le_of_ble_eq_true rfl) (v := S 2 b) (fl_2 _ _ (i := b) (by omega)) dX7_told_58 ?_
          refine g_goto X (tgt := 85) dX7_told_59 (by decide) ?_
          refine g_lv _ [] rfl ?_
          exact J7 _ (by rw [if_pos (c := ¬ (nI k) = 0) h1, if_pos (c := ¬ k = 1) h2, if_pos (c := ¬ k = 2) h3, if_neg (c := ¬ k = 3) (fun z => z h4)])
      · --
        refine g_aload_n X 0 dX7_told_33 rfl rfl ?_
        refine g_get X (C := RX7) (T := TX7) (N := 21) (v := .ref (h 1)) inlX7 0 rfl rfl 1 (Nat.le_of_ble_eq_true rfl) kF_X7_7 rfl dX7_told_34 ?_
        refine g_bipush X (v := nI 12) dX7_told_37 (by decide +kernel) ?_
        refine g_iload_n X 1 dX7_told_39 rfl rfl ?_
        refine g_iadd X (v := nI (b + 12)) dX7_told_40 ((nI_add _ _).trans (congrArg nI (by omega))) ?_
        refine g_lald X 1 rfl (12 + b) (congrArg nI (show b + 12 = 12 + b by omega)) (by omega) (Nat.le_of_ble_eq_true rfl) (v := S 1 b) (fl_1 _ _ (i := b) (by omega)) dX7_told_41 ?_
        refine g_goto X (tgt := 85) dX7_told_42 (by decide) ?_
        refine g_lv _ [] rfl ?_
        exact J7 _ (by rw [if_pos (c := ¬ (nI k) = 0) h1, if_pos (c := ¬ k = 1) h2, if_neg (c := ¬ k = 2) (fun z => z h3)])
    · --
      refine g_aload_n X 0 dX7_told_20 rfl rfl ?_
      refine g_iload_n X 1 dX7_told_21 rfl rfl ?_
      refine g_callV X (As := [.int (nI b)]) (rest := []) (m_X7_degrees l D cI cJ cZ h th C N S Qk K P Y b hb (hW.ne hb)) kM_X7_111 kI_yX7_degrees kS_yX7_degrees kZ_RX7 kC_yX7_degrees hV_X7_degrees rfl rfl rfl 0 rfl (ci := 7) rfl ⟨Nat.le_of_ble_eq_true rfl, Nat.le_of_ble_eq_true rfl⟩ ⟨Nat.le_of_ble_eq_true rfl, Nat.le_of_ble_eq_true rfl⟩ (Nat.le_of_ble_eq_true rfl) dX7_told_22 rfl [0, 1, 2, 3, 4, 5, 6, 7, 8, 9, 10, 11, 12, 13, 14, 15, 16] rfl rfl (g_kk1 (w2 := wM h cI cJ cZ th C N S Qk K P Y) ⟨[0, 1, 2, 3, 4, 5, 6, 7, 8, 9, 10, 11, 12, 13, 14, 15, 16], [], [0, 1, 2, 3, 4, 5, 6, 7, 8, 9, 10, 11, 12, 13, 14, 15, 16], [], rfl, rfl, rfl, rfl, by decide, rfl, rfl⟩ ?_)
      refine g_goto X (tgt := 85) dX7_told_25 (by decide) ?_
      refine g_lv _ [] rfl ?_
      exact J7 _ (by rw [if_pos (c := ¬ (nI k) = 0) h1, if_neg (c := ¬ k = 1) (fun z => z h2)])
  · --
    refine g_aload_n X 0 dX7_told_4 rfl rfl ?_
    refine g_get X (C := RX7) (T := TX7) (N := 21) (v := .ref (h 1)) inlX7 0 rfl rfl 1 (Nat.le_of_ble_eq_true rfl) kF_X7_7 rfl dX7_told_5 ?_
    refine g_iconst X (v := nI 0) dX7_told_8 (by decide +kernel) ?_
    refine g_iload_n X 1 dX7_told_9 rfl rfl ?_
    refine g_iadd X (v := nI b) dX7_told_10 ((nI_add _ _).trans (congrArg nI (by omega))) ?_
    refine g_lald X 1 rfl (0 + b) (congrArg nI (show b = 0 + b by omega)) (by omega) (Nat.le_of_ble_eq_true rfl) (v := S 0 b) (fl_0 _ _ (i := b) (by omega)) dX7_told_11 ?_
    refine g_goto X (tgt := 85) dX7_told_12 (by decide) ?_
    refine g_lv _ [] rfl ?_
    exact J7 _ (by rw [if_neg (c := ¬ (nI k) = 0) (fun z => z h1)])
theorem hV_X7_toBlame : yX7_toBlame.cls = RX7 ∧ yX7_toBlame.cls ≠ "java/lang/invoke/MethodHandle" ∧ yX7_toBlame.cls ≠ "java/lang/invoke/VarHandle" ∧ (parseMethodDescriptor yX7_toBlame.desc).map (fun d => d.parameters.length) = some 1 := by decide +kernel
abbrev rm_X7_toBlame : Room := { frames := 0, cells := 0, slots := 0, locals := 0 }
set_option maxRecDepth 100000 in
set_option maxHeartbeats 4000000 in
theorem m_X7_toBlame (l : Launch) (D : va_G) (cI cJ cZ : ClassId) (h : Nat → Nat) (th : Int32) (C : Cf) (N : Nat → Nat) (S : St) (Qk K P : Nat → Int64) (Y : St) (k : Nat) (hC : Cok C N) (hk : k < 4) : g_Ct l D cI cJ cZ yX7_toBlame cX7_toBlame 6 (some .int) rm_X7_toBlame 0 0 [.ref (h 0), .int (nI k)] (wM h cI cJ cZ th C N S Qk K P Y) (g_eq (some (.int ((blm S k (N 0)).1))) (wM h cI cJ cZ th C N S Qk K P Y)) := by
  refine g_body RX7 [(0, .ref (h 0)), (1, .int (nI k))] kH_X7 rfl (Nat.le_of_ble_eq_true rfl) rfl ?_
  intro p e s m args below meth c A X hr hlk hmn Q hQ
  have hN0 := hC.n0
  have hN1 := hC.n1
  have hN2 := hC.n2
  refine g_iconst X (v := (-1 : Int32)) dX7_toBlame_0 (by decide +kernel) ?_
  refine g_istore_n X [(2, .int (-1 : Int32)), (0, .ref (h 0)), (1, .int (nI k))] dX7_toBlame_1 rfl (Nat.le_of_ble_eq_true rfl) rfl ?_
  refine g_iconst X (v := nI 0) dX7_toBlame_2 (by decide +kernel) ?_
  refine g_istore_n X [(3, .int (nI 0)), (2, .int (-1 : Int32)), (0, .ref (h 0)), (1, .int (nI k))] dX7_toBlame_3 rfl (Nat.le_of_ble_eq_true rfl) rfl ?_
  have L1 : ∀ (n3 i2 : Nat) (a4 : Int32), i2 + n3 = (N 0) → a4 = (blm S k i2).1 → g_G p l e rm_X7_toBlame s m args below meth c D A 6 0 0 Q (wM h cI cJ cZ th C N S Qk K P Y) [(0, .ref (h 0)), (1, .int (nI k)), (2, .int a4), (3, .int (nI i2))] 4 [] := by
    intro n3
    induction n3 with
    | zero =>
      intro i2 a4 hi5 ea4
      obtain rfl : i2 = (N 0) := by omega
      refine g_iload_n X 3 dX7_toBlame_4 rfl rfl ?_
      refine g_aload_n X 0 dX7_toBlame_5 rfl rfl ?_
      refine g_get X (C := RX7) (T := TX7) (N := 21) (v := .int (nI (N 0))) inlX7 0 rfl rfl 6 (Nat.le_of_ble_eq_true rfl) kF_X7_72 rfl dX7_toBlame_6 ?_
      refine g_icN_ge X (a := (N 0)) (b := N 0) (tgt := 69) (by omega) (by omega) dX7_toBlame_9 (by decide) (fun h6 => ?_) (fun h6 => absurd h6 (by omega))
      refine g_iload_n X 2 dX7_toBlame_69 rfl rfl ?_
      refine g_iret X hr hlk hQ dX7_toBlame_70 ?_
      show g_eq _ _ _ _
      try rw [ea4]
      exact ⟨rfl, rfl⟩
    | succ n3 ihL1 =>
      intro i2 a4 hi5 ea4
      have hlti2 : i2 < (N 0) := by omega
      refine g_iload_n X 3 dX7_toBlame_4 rfl rfl ?_
      refine g_aload_n X 0 dX7_toBlame_5 rfl rfl ?_
      refine g_get X (C := RX7) (T := TX7) (N := 21) (v := .int (nI (N 0))) inlX7 0 rfl rfl 6 (Nat.le_of_ble_eq_true rfl) kF_X7_72 rfl dX7_toBlame_6 ?_
      refine g_icN_ge X (a := i2) (b := N 0) (tgt := 69) (by omega) (by omega) dX7_toBlame_9 (by decide) (fun h7 => absurd h7 (by omega)) (fun h7 => ?_)
      refine g_iload_n X 2 dX7_toBlame_12 rfl rfl ?_
      refine g_iconst X (v := (-1 : Int32)) dX7_toBlame_13 (by decide +kernel) ?_
      have J10 : ∀ (v9 : Int64), v9 = (if ¬ a4 = (-1 : Int32) then (blm S k i2).2 else (0 : Int64)) → g_G p l e rm_X7_toBlame s m args below meth c D A 6 0 0 Q (wM h cI cJ cZ th C N S Qk K P Y) [(0, .ref (h 0)), (1, .int (nI k)), (2, .int a4), (3, .int (nI i2))] 35 [.long v9] := by
        intro v9 ev9
        replace ev9 : v9 = (blm S k i2).2 := by rw [ev9]; by_cases hh : a4 = -1; rw [if_neg (fun z => z hh)]; exact (blm_0 (by rw [← ea4]; exact hh) (by omega)).symm; exact if_pos hh
        refine g_lstore X [(4, .long v9), (0, .ref (h 0)), (1, .int (nI k)), (2, .int a4), (3, .int (nI i2))] dX7_toBlame_35 (Nat.le_of_ble_eq_true rfl) rfl ?_
        refine g_aload_n X 1 dX7_toBlame_37 rfl rfl ?_
        refine g_get X (C := RX7) (T := TX7) (N := 21) (v := .ref (h 1)) inlX7 0 rfl rfl 1 (Nat.le_of_ble_eq_true rfl) kF_X7_7 rfl dX7_toBlame_38 ?_
        refine g_bipush X (v := nI 106) dX7_toBlame_41 (by decide +kernel) ?_
        refine g_bipush X (v := nI 10) dX7_toBlame_43 (by decide +kernel) ?_
        refine g_iload_n X 2 dX7_toBlame_45 rfl rfl ?_
        refine g_imul X (v := nI (10 * k)) dX7_toBlame_46 (pk_mul _ _) ?_
        refine g_iadd X (v := nI (10 * k + 106)) dX7_toBlame_47 ((nI_add _ _).trans (congrArg nI (by omega))) ?_
        refine g_iload_n X 4 dX7_toBlame_48 rfl rfl ?_
        refine g_iadd X (v := nI (10 * k + i2 + 106)) dX7_toBlame_49 ((nI_add _ _).trans (congrArg nI (by omega))) ?_
        refine g_lald X 1 rfl (106 + (10 * k + i2)) (congrArg nI (show 10 * k + i2 + 106 = 106 + (10 * k + i2) by omega)) (by omega) (Nat.le_of_ble_eq_true rfl) (v := S 11 (10 * k + i2)) (fl_11 _ _ (i := 10 * k + i2) (by omega)) dX7_toBlame_50 ?_
        refine g_lload X 0 dX7_toBlame_51 rfl ?_
        have J13 : ∀ (v12 : Int32), v12 = (if (S 11 (10 * k + i2)) ≤ v9 then a4 else nI i2) → g_G p l e rm_X7_toBlame s m args below meth c D A 6 0 0 Q (wM h cI cJ cZ th C N S Qk K P Y) [(0, .ref (h 0)), (1, .int (nI k)), (3, .int (nI i2))] 62 [.int v12] := by
          intro v12 ev12
          refine g_istore_n X [(2, .int v12), (0, .ref (h 0)), (1, .int (nI k)), (3, .int (nI i2))] dX7_toBlame_62 rfl (Nat.le_of_ble_eq_true rfl) rfl ?_
          refine g_iinc X [(3, .int (nI (i2 + 1))), (2, .int v12), (0, .ref (h 0)), (1, .int (nI k))] (q := 3) (v := nI (i2 + 1)) dX7_toBlame_63 rfl ((congrArg (fun z => nI (i2) + z) (show Int32.ofInt 1 = nI 1 by decide +kernel)).trans ((nI_add _ _).trans (congrArg nI (by omega)))) (Nat.le_of_ble_eq_true rfl) rfl ?_
          refine g_goto X (tgt := 4) dX7_toBlame_66 (by decide) ?_
          refine g_lv _ [2, 3, 1, 0] rfl ?_
          exact ihL1 (i2 + 1) _ (by omega) (by (try rw [ev12]); (try rw [ev9]); (try rw [ea4]); first | done | (rw [blm_s, apply_ite Prod.fst] <;> rfl))
        refine g_lj_le X (tgt := 61) (pc1 := 54) dX7_toBlame_53 rfl dX7_toBlame_54 (by decide) (fun h11 => ?_) (fun h11 => ?_)
        · --
          refine g_iload_n X 3 dX7_toBlame_61 rfl rfl ?_
          refine g_lv _ [1, 2, 4] rfl ?_
          exact J13 _ (by rw [if_pos (c := (S 11 (10 * k + i2)) ≤ v9) h11])
        · --
          refine g_iload_n X 4 dX7_toBlame_57 rfl rfl ?_
          refine g_goto X (tgt := 62) dX7_toBlame_58 (by decide) ?_
          refine g_lv _ [1, 2, 4] rfl ?_
          exact J13 _ (by rw [if_neg (c := (S 11 (10 * k + i2)) ≤ v9) h11])
      refine g_icmp_ne X (tgt := 21) dX7_toBlame_14 (by decide) (fun h8 => ?_) (fun h8 => ?_)
      · --
        obtain ⟨q, hq, eq, eA⟩ := blm_1 (S := S) (k := k) (n := i2) (by rw [← ea4]; assumption)
        refine g_aload_n X 0 dX7_toBlame_21 rfl rfl ?_
        refine g_get X (C := RX7) (T := TX7) (N := 21) (v := .ref (h 1)) inlX7 0 rfl rfl 1 (Nat.le_of_ble_eq_true rfl) kF_X7_7 rfl dX7_toBlame_22 ?_
        refine g_bipush X (v := nI 106) dX7_toBlame_25 (by decide +kernel) ?_
        refine g_bipush X (v := nI 10) dX7_toBlame_27 (by decide +kernel) ?_
        refine g_iload_n X 1 dX7_toBlame_29 rfl rfl ?_
        refine g_imul X (v := nI (10 * k)) dX7_toBlame_30 (pk_mul _ _) ?_
        refine g_iadd X (v := nI (10 * k + 106)) dX7_toBlame_31 ((nI_add _ _).trans (congrArg nI (by omega))) ?_
        refine g_iload_n X 2 dX7_toBlame_32 rfl rfl ?_
        refine g_iadd X (v := nI (q + 10 * k + 106)) dX7_toBlame_33 (by rw [ea4, eq]; exact (nI_add _ _).trans (congrArg nI (by omega))) ?_
        refine g_lald X 1 rfl (106 + (q + 10 * k)) (congrArg nI (show q + 10 * k + 106 = 106 + (q + 10 * k) by omega)) (by omega) (Nat.le_of_ble_eq_true rfl) (v := (blm S k i2).2) ((fl_11 _ _ (i := q + 10 * k) (by omega)).trans (by rw [eA]; exact congrArg (S 11) (by omega))) dX7_toBlame_34 ?_
        exact J10 _ (by rw [if_pos (c := ¬ a4 = (-1 : Int32)) h8])
      · --
        refine g_lconst X (v := 0) dX7_toBlame_17 (by decide +kernel) ?_
        refine g_goto X (tgt := 35) dX7_toBlame_18 (by decide) ?_
        exact J10 _ (by rw [if_neg (c := ¬ a4 = (-1 : Int32)) (fun z => z h8)])
  refine g_lv _ [2, 3, 1, 0] rfl ?_
  exact L1 ((N 0)) 0 _ (by omega) (by first | rfl | (first | done | rfl))
