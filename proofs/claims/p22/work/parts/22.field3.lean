theorem hV_X0_drawFromWells : yX0_drawFromWells.cls = RX0 ∧ yX0_drawFromWells.cls ≠ "java/lang/invoke/MethodHandle" ∧ yX0_drawFromWells.cls ≠ "java/lang/invoke/VarHandle" ∧ (parseMethodDescriptor yX0_drawFromWells.desc).map (fun d => d.parameters.length) = some 0 := by decide +kernel
abbrev rm_X0_drawFromWells : Room := { frames := 4, cells := 0, slots := 0, locals := 97 }
set_option maxRecDepth 100000 in
set_option maxHeartbeats 4000000 in
theorem m_X0_drawFromWells (l : Launch) (D : va_G) (cI cJ cZ : ClassId) (f : Nat → Nat) (C : Cf) (N : Nat → Nat) (S : St) (Qk : Nat → Int64) (Z : St) (k : Int) (hC : Cok C N) (hW : Wk k S) (hk : k ≤ 1099511627776) (hE : Wel N S) : g_Ct l D cI cJ cZ yX0_drawFromWells cX0_drawFromWells 2 none rm_X0_drawFromWells 0 0 [.ref (f 0)] (wF f cI cJ cZ C N S Qk Z) (g_eq none (wF f cI cJ cZ C N (itr (dwS C N) S (N 0)) Qk (u2 (u2 Z 3 0 (brn C N S (N 0))) 3 1 (brh C N S (N 0))))) := by
  refine g_body RX0 [(0, .ref (f 0))] kH_X0 rfl (Nat.le_of_ble_eq_true rfl) rfl ?_
  intro p e s m args below meth c A X hr hlk hmn Q hQ
  have hN0 := hC.n0
  have hN1 := hC.n1
  have hN2 := hC.n2
  refine g_aload_n X 0 dX0_drawFromWells_0 rfl rfl ?_
  refine g_lconst X (v := 0) dX0_drawFromWells_1 (by decide +kernel) ?_
  obtain ⟨X1, eX1⟩ : ∃ z : St, z = u2 Z 3 0 (0 : Int64) := ⟨_, rfl⟩
  refine g_put X (C := RX0) (T := TX0) (N := 11) (ws' := wF f cI cJ cZ C N S Qk X1) inlX0 tyX0 tyX0_ok nmX0 0 rfl rfl 8 (Nat.le_of_ble_eq_true rfl) kF_X0_57 rfl rfl rfl (Nat.le_of_ble_eq_true rfl) dX0_drawFromWells_2 (by rw [eX1]; first | done | (rfl)) ?_
  refine g_aload_n X 0 dX0_drawFromWells_5 rfl rfl ?_
  refine g_lconst X (v := 0) dX0_drawFromWells_6 (by decide +kernel) ?_
  obtain ⟨X2, eX2⟩ : ∃ z : St, z = u2 X1 3 1 (0 : Int64) := ⟨_, rfl⟩
  refine g_put X (C := RX0) (T := TX0) (N := 11) (ws' := wF f cI cJ cZ C N S Qk X2) inlX0 tyX0 tyX0_ok nmX0 0 rfl rfl 9 (Nat.le_of_ble_eq_true rfl) kF_X0_61 rfl rfl rfl (Nat.le_of_ble_eq_true rfl) dX0_drawFromWells_7 (by rw [eX2]; first | done | (rfl)) ?_
  refine g_iconst X (v := nI 0) dX0_drawFromWells_10 (by decide +kernel) ?_
  refine g_istore_n X [(1, .int (nI 0)), (0, .ref (f 0))] dX0_drawFromWells_11 rfl (Nat.le_of_ble_eq_true rfl) rfl ?_
  have L3 : ∀ (n5 i4 : Nat) (S6 : St) (X7 : St), i4 + n5 = (N 0) → S6 = itr (dwS C N) S i4 → X7 = u2 (u2 Z 3 0 (brn C N S i4)) 3 1 (brh C N S i4) → g_G p l e rm_X0_drawFromWells s m args below meth c D A 2 0 0 Q (wF f cI cJ cZ C N S6 Qk X7) [(0, .ref (f 0)), (1, .int (nI i4))] 12 [] := by
    intro n5
    induction n5 with
    | zero =>
      intro i4 S6 X7 hi8 eS6 eX7
      obtain rfl : i4 = (N 0) := by omega
      have hD := dw_ok C N S k hC hW hk hE (N 0) (by omega)
      rw [← eS6] at hD
      refine g_iload_n X 1 dX0_drawFromWells_12 rfl rfl ?_
      refine g_aload_n X 0 dX0_drawFromWells_13 rfl rfl ?_
      refine g_get X (C := RX0) (T := TX0) (N := 11) (v := .ref (f 11)) inlX0 0 rfl rfl 3 (Nat.le_of_ble_eq_true rfl) kF_X0_28 rfl dX0_drawFromWells_14 ?_
      refine g_get X (C := RX5) (T := TX5) (N := 9) (v := .int (nI (N 0))) inlX5 11 rfl rfl 0 (Nat.le_of_ble_eq_true rfl) kF_X0_107 rfl dX0_drawFromWells_17 ?_
      refine g_icN_ge X (a := (N 0)) (b := N 0) (tgt := 45) (by omega) (by omega) dX0_drawFromWells_20 (by decide) (fun h9 => ?_) (fun h9 => absurd h9 (by omega))
      refine g_vret X hr hlk hQ dX0_drawFromWells_45 ?_
      show g_eq _ _ _ _
      try rw [eX7]
      try rw [eS6]
      try rw [eX2]
      try rw [eX1]
      exact ⟨rfl, rfl⟩
    | succ n5 ihL3 =>
      intro i4 S6 X7 hi8 eS6 eX7
      have hlti4 : i4 < (N 0) := by omega
      have hD := dw_ok C N S k hC hW hk hE i4 (by omega)
      rw [← eS6] at hD
      refine g_iload_n X 1 dX0_drawFromWells_12 rfl rfl ?_
      refine g_aload_n X 0 dX0_drawFromWells_13 rfl rfl ?_
      refine g_get X (C := RX0) (T := TX0) (N := 11) (v := .ref (f 11)) inlX0 0 rfl rfl 3 (Nat.le_of_ble_eq_true rfl) kF_X0_28 rfl dX0_drawFromWells_14 ?_
      refine g_get X (C := RX5) (T := TX5) (N := 9) (v := .int (nI (N 0))) inlX5 11 rfl rfl 0 (Nat.le_of_ble_eq_true rfl) kF_X0_107 rfl dX0_drawFromWells_17 ?_
      refine g_icN_ge X (a := i4) (b := N 0) (tgt := 45) (by omega) (by omega) dX0_drawFromWells_20 (by decide) (fun h10 => absurd h10 (by omega)) (fun h10 => ?_)
      refine g_aload_n X 0 dX0_drawFromWells_23 rfl rfl ?_
      refine g_get X (C := RX0) (T := TX0) (N := 11) (v := .ref (f 11)) inlX0 0 rfl rfl 3 (Nat.le_of_ble_eq_true rfl) kF_X0_28 rfl dX0_drawFromWells_24 ?_
      refine g_iload_n X 1 dX0_drawFromWells_27 rfl rfl ?_
      refine g_callV X (As := [.int (nI i4)]) (rest := []) (m_X5_isDrawing l D cI cJ cZ (fun i => f (11 + i)) C N S6 i4 (by omega)) kM_X0_144 kI_yX5_isDrawing kS_yX5_isDrawing kZ_RX5 kC_yX5_isDrawing hV_X5_isDrawing rfl rfl rfl 0 rfl (ci := 5) rfl ⟨Nat.le_of_ble_eq_true rfl, Nat.le_of_ble_eq_true rfl⟩ ⟨Nat.le_of_ble_eq_true rfl, Nat.le_of_ble_eq_true rfl⟩ (Nat.le_of_ble_eq_true rfl) dX0_drawFromWells_28 rfl (em_I 11 9 20 0) (em_C (by decide) (Nat.le_of_ble_eq_true rfl) rfl) (em_nd (by decide)) (g_kk1 (w2 := wF f cI cJ cZ C N S6 Qk X7) (em3 11 9 20 0 (by decide) (Nat.le_of_ble_eq_true rfl) rfl rfl rfl) ?_)
      have J16 : ∀ (S14 : St) (X15 : St), S14 = (if (drw C S6 i4) = false then S6 else (drawS C N S6 i4)) → X15 = (if (drw C S6 i4) = false then X7 else (u2 (u2 X7 3 0 (X7 3 0 + brW C S6 i4)) 3 1 (X7 3 1 + bhW C S6 i4))) → g_G p l e rm_X0_drawFromWells s m args below meth c D A 2 0 0 Q (wF f cI cJ cZ C N S14 Qk X15) [(0, .ref (f 0)), (1, .int (nI i4))] 39 [] := by
        intro S14 X15 eS14 eX15
        refine g_iinc X [(1, .int (nI (i4 + 1))), (0, .ref (f 0))] (q := 1) (v := nI (i4 + 1)) dX0_drawFromWells_39 rfl ((congrArg (fun z => nI (i4) + z) (show Int32.ofInt 1 = nI 1 by decide +kernel)).trans ((nI_add _ _).trans (congrArg nI (by omega)))) (Nat.le_of_ble_eq_true rfl) rfl ?_
        refine g_goto X (tgt := 12) dX0_drawFromWells_42 (by decide) ?_
        refine g_lv _ [1, 0] rfl ?_
        exact ihL3 (i4 + 1) _ _ (by omega) (by (try rw [eX15]); (try rw [eS14]); (try rw [eX7]); (try rw [eS6]); first | done | (rfl)) (by (try rw [eX15]); (try rw [eS14]); (try rw [eX7]); (try rw [eS6]); first | done | (rw [brn_s, brh_s]; exact brZ _ _ _ _ _ _))
      refine g_bI_eq X (tgt := 39) dX0_drawFromWells_31 (by decide) (fun h11 => ?_) (fun h11 => ?_)
      · --
        exact J16 _ _ (by rw [if_pos (c := (drw C S6 i4) = false) h11]) (by rw [if_pos (c := (drw C S6 i4) = false) h11])
      · --
        refine g_aload_n X 0 dX0_drawFromWells_34 rfl rfl ?_
        refine g_iload_n X 1 dX0_drawFromWells_35 rfl rfl ?_
        obtain ⟨S12, eS12⟩ : ∃ z : St, z = drawS C N S6 i4 := ⟨_, rfl⟩
        obtain ⟨X13, eX13⟩ : ∃ z : St, z = u2 (u2 X7 3 0 (X7 3 0 + brW C S6 i4)) 3 1 (X7 3 1 + bhW C S6 i4) := ⟨_, rfl⟩
        refine g_callV X (As := [.int (nI i4)]) (rest := []) (m_X0_draw l D cI cJ cZ f C N S6 Qk X7 i4 hC (hD.1.ok hk) hD.2 (by omega)) kM_X0_147 kI_yX0_draw kS_yX0_draw kZ_RX0 kC_yX0_draw hV_X0_draw rfl rfl rfl 0 rfl (ci := 0) rfl ⟨Nat.le_of_ble_eq_true rfl, Nat.le_of_ble_eq_true rfl⟩ ⟨Nat.le_of_ble_eq_true rfl, Nat.le_of_ble_eq_true rfl⟩ (Nat.le_of_ble_eq_true rfl) dX0_drawFromWells_36 rfl (em_I 0 35 35 0) (em_C (by decide) (Nat.le_of_ble_eq_true rfl) rfl) (em_nd (by decide)) (g_kk1 (w2 := wF f cI cJ cZ C N S12 Qk X13) (by rw [eX13]; rw [eS12]; exact (em3 0 35 35 0 (by decide) (Nat.le_of_ble_eq_true rfl) rfl rfl rfl)) ?_)
        exact J16 _ _ (by (try rw [eX13]); (try rw [eS12]); rw [if_neg (c := (drw C S6 i4) = false) (by rw [h11]; decide)]) (by (try rw [eX13]); (try rw [eS12]); rw [if_neg (c := (drw C S6 i4) = false) (by rw [h11]; decide)])
  refine g_lv _ [1, 0] rfl ?_
  exact L3 ((N 0)) 0 _ _ (by omega) (by first | rfl | ((try rw [eX2]); (try rw [eX1]); first | done | rfl)) (by first | rfl | ((try rw [eX2]); (try rw [eX1]); first | done | rfl))
/-- selling: degrees left, and what is sold -/
def selP (C : Cf) (br bh s0 : Int64) (n : Nat) : Int64 × Int64 := itr (fun u p => if br ≤ 0 then p else if p.1 < (C 5 u).toInt64 then p else (p.1 - (if p.1 < (C 6 u).toInt64 then p.1 else (C 6 u).toInt64), p.2 + (if p.1 < (C 6 u).toInt64 then p.1 else (C 6 u).toInt64) * br)) (if br ≤ 0 then 0 else bh / br, s0) n
theorem selP_s (C : Cf) (br bh s0 : Int64) (u : Nat) : selP C br bh s0 (u + 1) = if br ≤ 0 then selP C br bh s0 u else if (selP C br bh s0 u).1 < (C 5 u).toInt64 then selP C br bh s0 u else ((selP C br bh s0 u).1 - (if (selP C br bh s0 u).1 < (C 6 u).toInt64 then (selP C br bh s0 u).1 else (C 6 u).toInt64), (selP C br bh s0 u).2 + (if (selP C br bh s0 u).1 < (C 6 u).toInt64 then (selP C br bh s0 u).1 else (C 6 u).toInt64) * br) := rfl
theorem sel_u (S : St) (c i : Nat) (c1 c2 : Prop) [Decidable c1] [Decidable c2] (a b : Int64) : (if c1 then u2 S c i a else if c2 then u2 S c i a else u2 (u2 S c i a) c i b) = u2 S c i (if c1 then a else if c2 then a else b) := by
  by_cases h1 : c1
  · rw [if_pos h1, if_pos h1]
  · rw [if_neg h1, if_neg h1]
    by_cases h2 : c2
    · rw [if_pos h2, if_pos h2]
    · rw [if_neg h2, if_neg h2, u2_twice]

theorem hV_X0_sellHeat : yX0_sellHeat.cls = RX0 ∧ yX0_sellHeat.cls ≠ "java/lang/invoke/MethodHandle" ∧ yX0_sellHeat.cls ≠ "java/lang/invoke/VarHandle" ∧ (parseMethodDescriptor yX0_sellHeat.desc).map (fun d => d.parameters.length) = some 0 := by decide +kernel
abbrev rm_X0_sellHeat : Room := { frames := 1, cells := 0, slots := 0, locals := 23 }
set_option maxRecDepth 100000 in
set_option maxHeartbeats 4000000 in
theorem m_X0_sellHeat (l : Launch) (D : va_G) (cI cJ cZ : ClassId) (f : Nat → Nat) (C : Cf) (N : Nat → Nat) (S : St) (Qk : Nat → Int64) (Z : St) (hC : Cok C N) : g_Ct l D cI cJ cZ yX0_sellHeat cX0_sellHeat 4 none rm_X0_sellHeat 0 0 [.ref (f 0)] (wF f cI cJ cZ C N S Qk Z) (g_eq none (wF f cI cJ cZ C N (u2 S 12 5 (selP C (Z 3 0) (Z 3 1) (S 12 5) (N 1)).2) Qk (u2 Z 3 2 (selP C (Z 3 0) (Z 3 1) (S 12 5) (N 1)).1))) := by
  refine g_body RX0 [(0, .ref (f 0))] kH_X0 rfl (Nat.le_of_ble_eq_true rfl) rfl ?_
  intro p e s m args below meth c A X hr hlk hmn Q hQ
  have hN0 := hC.n0
  have hN1 := hC.n1
  have hN2 := hC.n2
  refine g_aload_n X 0 dX0_sellHeat_0 rfl rfl ?_
  refine g_aload_n X 0 dX0_sellHeat_1 rfl rfl ?_
  refine g_get X (C := RX0) (T := TX0) (N := 11) (v := .long (Z 3 0)) inlX0 0 rfl rfl 8 (Nat.le_of_ble_eq_true rfl) kF_X0_57 rfl dX0_sellHeat_2 ?_
  refine g_lconst X (v := 0) dX0_sellHeat_5 (by decide +kernel) ?_
  have J3 : ∀ (v2 : Int64), v2 = (if (Z 3 0) ≤ (0 : Int64) then (0 : Int64) else (Z 3 1) / (Z 3 0)) → g_G p l e rm_X0_sellHeat s m args below meth c D A 4 0 0 Q (wF f cI cJ cZ C N S Qk Z) [(0, .ref (f 0))] 23 [.long v2, .ref (f 0)] := by
    intro v2 ev2
    obtain ⟨X4, eX4⟩ : ∃ z : St, z = u2 Z 3 2 v2 := ⟨_, rfl⟩
    refine g_put X (C := RX0) (T := TX0) (N := 11) (ws' := wF f cI cJ cZ C N S Qk X4) inlX0 tyX0 tyX0_ok nmX0 0 rfl rfl 10 (Nat.le_of_ble_eq_true rfl) kF_X0_64 rfl rfl rfl (Nat.le_of_ble_eq_true rfl) dX0_sellHeat_23 (by rw [eX4]; first | done | (rfl)) ?_
    refine g_iconst X (v := nI 0) dX0_sellHeat_26 (by decide +kernel) ?_
    refine g_istore_n X [(1, .int (nI 0)), (0, .ref (f 0))] dX0_sellHeat_27 rfl (Nat.le_of_ble_eq_true rfl) rfl ?_
    have L5 : ∀ (n7 i6 : Nat) (S8 : St) (X9 : St), i6 + n7 = (N 1) → S8 = u2 S 12 5 (selP C (Z 3 0) (Z 3 1) (S 12 5) i6).2 → X9 = u2 Z 3 2 (selP C (Z 3 0) (Z 3 1) (S 12 5) i6).1 → g_G p l e rm_X0_sellHeat s m args below meth c D A 4 0 0 Q (wF f cI cJ cZ C N S8 Qk X9) [(0, .ref (f 0)), (1, .int (nI i6))] 28 [] := by
      intro n7
      induction n7 with
      | zero =>
        intro i6 S8 X9 hi10 eS8 eX9
        obtain rfl : i6 = (N 1) := by omega
        refine g_iload_n X 1 dX0_sellHeat_28 rfl rfl ?_
        refine g_aload_n X 0 dX0_sellHeat_29 rfl rfl ?_
        refine g_get X (C := RX0) (T := TX0) (N := 11) (v := .ref (f 20)) inlX0 0 rfl rfl 4 (Nat.le_of_ble_eq_true rfl) kF_X0_35 rfl dX0_sellHeat_30 ?_
        refine g_get X (C := RX4) (T := TX4) (N := 3) (v := .int (nI (N 1))) inlX4 20 rfl rfl 0 (Nat.le_of_ble_eq_true rfl) kF_X0_195 rfl dX0_sellHeat_33 ?_
        refine g_icN_ge X (a := (N 1)) (b := N 1) (tgt := 115) (by omega) (by omega) dX0_sellHeat_36 (by decide) (fun h11 => ?_) (fun h11 => absurd h11 (by omega))
        refine g_vret X hr hlk hQ dX0_sellHeat_115 ?_
        show g_eq _ _ _ _
        try rw [eX9]
        try rw [eS8]
        try rw [eX4]
        try rw [ev2]
        exact ⟨rfl, rfl⟩
      | succ n7 ihL5 =>
        intro i6 S8 X9 hi10 eS8 eX9
        have hlti6 : i6 < (N 1) := by omega
        refine g_iload_n X 1 dX0_sellHeat_28 rfl rfl ?_
        refine g_aload_n X 0 dX0_sellHeat_29 rfl rfl ?_
        refine g_get X (C := RX0) (T := TX0) (N := 11) (v := .ref (f 20)) inlX0 0 rfl rfl 4 (Nat.le_of_ble_eq_true rfl) kF_X0_35 rfl dX0_sellHeat_30 ?_
        refine g_get X (C := RX4) (T := TX4) (N := 3) (v := .int (nI (N 1))) inlX4 20 rfl rfl 0 (Nat.le_of_ble_eq_true rfl) kF_X0_195 rfl dX0_sellHeat_33 ?_
        refine g_icN_ge X (a := i6) (b := N 1) (tgt := 115) (by omega) (by omega) dX0_sellHeat_36 (by decide) (fun h12 => absurd h12 (by omega)) (fun h12 => ?_)
        refine g_aload_n X 0 dX0_sellHeat_39 rfl rfl ?_
        refine g_get X (C := RX0) (T := TX0) (N := 11) (v := .long (X9 3 0)) inlX0 0 rfl rfl 8 (Nat.le_of_ble_eq_true rfl) kF_X0_57 rfl dX0_sellHeat_40 ?_
        refine g_lconst X (v := 0) dX0_sellHeat_43 (by decide +kernel) ?_
        have J19 : ∀ (S17 : St) (X18 : St), S17 = (if (X9 3 0) ≤ (0 : Int64) then S8 else if (X9 3 2) < ((C 5 i6).toInt64) then S8 else (u2 S8 12 5 ((S8 12 5) + ((if (X9 3 2) < ((C 6 i6).toInt64) then X9 3 2 else (C 6 i6).toInt64) * (X9 3 0))))) → X18 = (if (X9 3 0) ≤ (0 : Int64) then X9 else if (X9 3 2) < ((C 5 i6).toInt64) then X9 else (u2 X9 3 2 ((X9 3 2) - (if (X9 3 2) < ((C 6 i6).toInt64) then X9 3 2 else (C 6 i6).toInt64)))) → g_G p l e rm_X0_sellHeat s m args below meth c D A 4 0 0 Q (wF f cI cJ cZ C N S17 Qk X18) [(0, .ref (f 0)), (1, .int (nI i6))] 109 [] := by
          intro S17 X18 eS17 eX18
          refine g_iinc X [(1, .int (nI (i6 + 1))), (0, .ref (f 0))] (q := 1) (v := nI (i6 + 1)) dX0_sellHeat_109 rfl ((congrArg (fun z => nI (i6) + z) (show Int32.ofInt 1 = nI 1 by decide +kernel)).trans ((nI_add _ _).trans (congrArg nI (by omega)))) (Nat.le_of_ble_eq_true rfl) rfl ?_
          refine g_goto X (tgt := 28) dX0_sellHeat_112 (by decide) ?_
          refine g_lv _ [1, 0] rfl ?_
          exact ihL5 (i6 + 1) _ _ (by omega) (by (try rw [eX18]); (try rw [eS17]); (try rw [eX9]); (try rw [eS8]); first | done | (rw [selP_s, apply_ite Prod.snd, apply_ite Prod.snd]; exact sel_u _ _ _ _ _ _ _)) (by (try rw [eX18]); (try rw [eS17]); (try rw [eX9]); (try rw [eS8]); first | done | (rw [selP_s, apply_ite Prod.fst, apply_ite Prod.fst]; exact sel_u _ _ _ _ _ _ _))
        refine g_lj_le X (tgt := 109) (pc1 := 45) dX0_sellHeat_44 rfl dX0_sellHeat_45 (by decide) (fun h13 => ?_) (fun h13 => ?_)
        · --
          exact J19 _ _ (by rw [if_pos (c := (X9 3 0) ≤ (0 : Int64)) h13]) (by rw [if_pos (c := (X9 3 0) ≤ (0 : Int64)) h13])
        · --
          refine g_aload_n X 0 dX0_sellHeat_48 rfl rfl ?_
          refine g_get X (C := RX0) (T := TX0) (N := 11) (v := .long (X9 3 2)) inlX0 0 rfl rfl 10 (Nat.le_of_ble_eq_true rfl) kF_X0_64 rfl dX0_sellHeat_49 ?_
          refine g_aload_n X 0 dX0_sellHeat_52 rfl rfl ?_
          refine g_get X (C := RX0) (T := TX0) (N := 11) (v := .ref (f 20)) inlX0 0 rfl rfl 4 (Nat.le_of_ble_eq_true rfl) kF_X0_35 rfl dX0_sellHeat_53 ?_
          refine g_get X (C := RX4) (T := TX4) (N := 3) (v := .ref (f 21)) inlX4 20 rfl rfl 1 (Nat.le_of_ble_eq_true rfl) kF_X0_196 rfl dX0_sellHeat_56 ?_
          refine g_iload_n X 1 dX0_sellHeat_59 rfl rfl ?_
          refine g_iald X 21 rfl (i6) rfl (by omega) (Nat.le_of_ble_eq_true rfl) (v := C 5 i6) rfl dX0_sellHeat_60 ?_
          refine g_i2l X (v := (C 5 i6).toInt64) dX0_sellHeat_61 rfl ?_
          refine g_lj_lt X (tgt := 109) (pc1 := 63) dX0_sellHeat_62 rfl dX0_sellHeat_63 (by decide) (fun h14 => ?_) (fun h14 => ?_)
          · --
            exact J19 _ _ (by rw [if_neg (c := (X9 3 0) ≤ (0 : Int64)) h13, if_pos (c := (X9 3 2) < ((C 5 i6).toInt64)) h14]) (by rw [if_neg (c := (X9 3 0) ≤ (0 : Int64)) h13, if_pos (c := (X9 3 2) < ((C 5 i6).toInt64)) h14])
          · --
            refine g_aload_n X 0 dX0_sellHeat_66 rfl rfl ?_
            refine g_get X (C := RX0) (T := TX0) (N := 11) (v := .ref (f 20)) inlX0 0 rfl rfl 4 (Nat.le_of_ble_eq_true rfl) kF_X0_35 rfl dX0_sellHeat_67 ?_
            refine g_get X (C := RX4) (T := TX4) (N := 3) (v := .ref (f 22)) inlX4 20 rfl rfl 2 (Nat.le_of_ble_eq_true rfl) kF_X0_199 rfl dX0_sellHeat_70 ?_
            refine g_iload_n X 1 dX0_sellHeat_73 rfl rfl ?_
            refine g_iald X 22 rfl (i6) rfl (by omega) (Nat.le_of_ble_eq_true rfl) (v := C 6 i6) rfl dX0_sellHeat_74 ?_
            refine g_i2l X (v := (C 6 i6).toInt64) dX0_sellHeat_75 rfl ?_
            refine g_aload_n X 0 dX0_sellHeat_76 rfl rfl ?_
            refine g_get X (C := RX0) (T := TX0) (N := 11) (v := .long (X9 3 2)) inlX0 0 rfl rfl 10 (Nat.le_of_ble_eq_true rfl) kF_X0_64 rfl dX0_sellHeat_77 ?_
            refine g_mmin_long X (v := if (X9 3 2) < ((C 6 i6).toInt64) then X9 3 2 else (C 6 i6).toInt64) kT_min_long kM_X0_160 kZ_Math kC_min_long (Nat.le_of_ble_eq_true rfl) (Nat.le_of_ble_eq_true rfl) (Nat.le_of_ble_eq_true rfl) (Nat.le_of_ble_eq_true rfl) rfl dX0_sellHeat_80 ?_
            refine g_lstore_n X [(2, .long (if (X9 3 2) < ((C 6 i6).toInt64) then X9 3 2 else (C 6 i6).toInt64)), (0, .ref (f 0)), (1, .int (nI i6))] dX0_sellHeat_83 rfl (Nat.le_of_ble_eq_true rfl) rfl ?_
            refine g_aload_n X 1 dX0_sellHeat_84 rfl rfl ?_
            refine g_get X (C := RX0) (T := TX0) (N := 11) (v := .ref (f 34)) inlX0 0 rfl rfl 7 (Nat.le_of_ble_eq_true rfl) kF_X0_53 rfl dX0_sellHeat_85 ?_
            refine g_iconst X (v := nI 5) dX0_sellHeat_88 (by decide +kernel) ?_
            refine g_dup2_11 X dX0_sellHeat_89 rfl rfl ?_
            refine g_lald X 34 rfl (5) rfl (by omega) (Nat.le_of_ble_eq_true rfl) (v := S8 12 5) rfl dX0_sellHeat_90 ?_
            refine g_lload_n X 0 dX0_sellHeat_91 rfl rfl ?_
            refine g_aload_n X 1 dX0_sellHeat_92 rfl rfl ?_
            refine g_get X (C := RX0) (T := TX0) (N := 11) (v := .long (X9 3 0)) inlX0 0 rfl rfl 8 (Nat.le_of_ble_eq_true rfl) kF_X0_57 rfl dX0_sellHeat_93 ?_
            refine g_lmul X (v := (if (X9 3 2) < ((C 6 i6).toInt64) then X9 3 2 else (C 6 i6).toInt64) * (X9 3 0)) dX0_sellHeat_96 rfl ?_
            refine g_ladd X (v := (S8 12 5) + ((if (X9 3 2) < ((C 6 i6).toInt64) then X9 3 2 else (C 6 i6).toInt64) * (X9 3 0))) dX0_sellHeat_97 rfl ?_
            obtain ⟨S15, eS15⟩ : ∃ z : St, z = u2 S8 12 5 ((S8 12 5) + ((if (X9 3 2) < ((C 6 i6).toInt64) then X9 3 2 else (C 6 i6).toInt64) * (X9 3 0))) := ⟨_, rfl⟩
            refine g_last X (ws' := wF f cI cJ cZ C N S15 Qk X9) 34 rfl (5) rfl (by omega) (Nat.le_of_ble_eq_true rfl) dX0_sellHeat_98 (by rw [eS15]; first | done | (rfl)) ?_
            refine g_aload_n X 1 dX0_sellHeat_99 rfl rfl ?_
            refine g_dup X dX0_sellHeat_100 rfl ?_
            refine g_get X (C := RX0) (T := TX0) (N := 11) (v := .long (X9 3 2)) inlX0 0 rfl rfl 10 (Nat.le_of_ble_eq_true rfl) kF_X0_64 rfl dX0_sellHeat_101 ?_
            refine g_lload_n X 0 dX0_sellHeat_104 rfl rfl ?_
            refine g_lsub X (v := (X9 3 2) - (if (X9 3 2) < ((C 6 i6).toInt64) then X9 3 2 else (C 6 i6).toInt64)) dX0_sellHeat_105 rfl ?_
            obtain ⟨X16, eX16⟩ : ∃ z : St, z = u2 X9 3 2 ((X9 3 2) - (if (X9 3 2) < ((C 6 i6).toInt64) then X9 3 2 else (C 6 i6).toInt64)) := ⟨_, rfl⟩
            refine g_put X (C := RX0) (T := TX0) (N := 11) (ws' := wF f cI cJ cZ C N S15 Qk X16) inlX0 tyX0 tyX0_ok nmX0 0 rfl rfl 10 (Nat.le_of_ble_eq_true rfl) kF_X0_64 rfl rfl rfl (Nat.le_of_ble_eq_true rfl) dX0_sellHeat_106 (by rw [eX16]; first | done | (rfl)) ?_
            refine g_lv _ [1, 2] rfl ?_
            exact J19 _ _ (by (try rw [eX16]); (try rw [eS15]); rw [if_neg (c := (X9 3 0) ≤ (0 : Int64)) h13, if_neg (c := (X9 3 2) < ((C 5 i6).toInt64)) h14]) (by (try rw [eX16]); (try rw [eS15]); rw [if_neg (c := (X9 3 0) ≤ (0 : Int64)) h13, if_neg (c := (X9 3 2) < ((C 5 i6).toInt64)) h14])
    refine g_lv _ [1, 0] rfl ?_
    exact L5 ((N 1)) 0 _ _ (by omega) (u2_self _ _ _).symm (by first | rfl | ((try rw [eX4]); (try rw [ev2]); first | done | rfl))
  refine g_lj_le X (tgt := 22) (pc1 := 7) dX0_sellHeat_6 rfl dX0_sellHeat_7 (by decide) (fun h1 => ?_) (fun h1 => ?_)
  · --
    refine g_lconst X (v := 0) dX0_sellHeat_22 (by decide +kernel) ?_
    exact J3 _ (by rw [if_pos (c := (Z 3 0) ≤ (0 : Int64)) h1])
  · --
    refine g_aload_n X 0 dX0_sellHeat_10 rfl rfl ?_
    refine g_get X (C := RX0) (T := TX0) (N := 11) (v := .long (Z 3 1)) inlX0 0 rfl rfl 9 (Nat.le_of_ble_eq_true rfl) kF_X0_61 rfl dX0_sellHeat_11 ?_
    refine g_aload_n X 0 dX0_sellHeat_14 rfl rfl ?_
    refine g_get X (C := RX0) (T := TX0) (N := 11) (v := .long (Z 3 0)) inlX0 0 rfl rfl 8 (Nat.le_of_ble_eq_true rfl) kF_X0_57 rfl dX0_sellHeat_15 ?_
    refine g_ldiv X (v := (Z 3 1) / (Z 3 0)) dX0_sellHeat_18 (ne_le0 (by assumption)) rfl ?_
    refine g_goto X (tgt := 23) dX0_sellHeat_19 (by decide) ?_
    exact J3 _ (by rw [if_neg (c := (Z 3 0) ≤ (0 : Int64)) h1])
/-- a well's part -/
def partV (C : Cf) (S : St) (br : Int64) (w : Nat) (W : Int64) : Int64 := if ¬ lig S (plN C w) = 1 then (if W ≤ 0 then 0 else br * (C 4 w).toInt64 / W) else (if W ≤ 0 then 0 else br * (C 4 w).toInt64 / W) / 2
def gb1 (C : Cf) (br W : Int64) (w : Nat) (S : St) : St := if ret_ C S w = false then S else u2 S 5 w (partV C S br w W)
def lft (C : Cf) (br W : Int64) (S : St) (n : Nat) : Int64 := itr (fun w a => if ret_ C (itr (gb1 C br W) S w) w = false then a else a - partV C (itr (gb1 C br W) S w) br w W) br n
def gb2 (C : Cf) (hot : Int64) (w : Nat) (S : St) : St := if ret_ C S w = false then S else u2 (takeS S (plN C w) (S 5 w) hot) 3 (plN C w) (S 3 (plN C w) + S 5 w)
def gbS (C : Cf) (N : Nat → Nat) (S : St) (br hot : Int64) : St := itr (gb2 C hot) (u2 (itr (gb1 C br (wgt C S (N 0))) S (N 0)) 12 2 (itr (gb1 C br (wgt C S (N 0))) S (N 0) 12 2 + lft C br (wgt C S (N 0)) S (N 0))) (N 0)

theorem hV_X0_part : yX0_part.cls = RX0 ∧ yX0_part.cls ≠ "java/lang/invoke/MethodHandle" ∧ yX0_part.cls ≠ "java/lang/invoke/VarHandle" ∧ (parseMethodDescriptor yX0_part.desc).map (fun d => d.parameters.length) = some 2 := by decide +kernel
abbrev rm_X0_part : Room := { frames := 1, cells := 0, slots := 0, locals := 21 }
set_option maxRecDepth 100000 in
set_option maxHeartbeats 4000000 in
theorem m_X0_part (l : Launch) (D : va_G) (cI cJ cZ : ClassId) (f : Nat → Nat) (C : Cf) (N : Nat → Nat) (S : St) (Qk : Nat → Int64) (Z : St) (w : Nat) (x : Int64) (hC : Cok C N) (hw : w < N 0) : g_Ct l D cI cJ cZ yX0_part cX0_part 6 (some .long) rm_X0_part 0 0 [.ref (f 0), .int (nI w), .long x] (wF f cI cJ cZ C N S Qk Z) (g_eq (some (.long (partV C S (Z 3 0) w x))) (wF f cI cJ cZ C N S Qk Z)) := by
  refine g_body RX0 [(0, .ref (f 0)), (1, .int (nI w)), (2, .long x)] kH_X0 rfl (Nat.le_of_ble_eq_true rfl) rfl ?_
  intro p e s m args below meth c A X hr hlk hmn Q hQ
  have hN0 := hC.n0
  have hN1 := hC.n1
  have hN2 := hC.n2
  have hpl := (hC.pl hw).2
  have hlig := lig_3 S (plN C w)
  refine g_lload_n X 2 dX0_part_0 rfl rfl ?_
  refine g_lconst X (v := 0) dX0_part_1 (by decide +kernel) ?_
  have J3 : ∀ (v2 : Int64), v2 = (if x ≤ (0 : Int64) then (0 : Int64) else ((Z 3 0) * ((C 4 w).toInt64)) / x) → g_G p l e rm_X0_part s m args below meth c D A 6 0 0 Q (wF f cI cJ cZ C N S Qk Z) [(0, .ref (f 0)), (1, .int (nI w))] 27 [.long v2] := by
    intro v2 ev2
    refine g_lstore X [(4, .long v2), (0, .ref (f 0)), (1, .int (nI w))] dX0_part_27 (Nat.le_of_ble_eq_true rfl) rfl ?_
    refine g_aload_n X 1 dX0_part_29 rfl rfl ?_
    refine g_get X (C := RX0) (T := TX0) (N := 11) (v := .ref (f 1)) inlX0 0 rfl rfl 2 (Nat.le_of_ble_eq_true rfl) kF_X0_21 rfl dX0_part_30 ?_
    refine g_aload_n X 1 dX0_part_33 rfl rfl ?_
    refine g_get X (C := RX0) (T := TX0) (N := 11) (v := .ref (f 11)) inlX0 0 rfl rfl 3 (Nat.le_of_ble_eq_true rfl) kF_X0_28 rfl dX0_part_34 ?_
    refine g_get X (C := RX5) (T := TX5) (N := 9) (v := .ref (f 12)) inlX5 11 rfl rfl 1 (Nat.le_of_ble_eq_true rfl) kF_X0_121 rfl dX0_part_37 ?_
    refine g_iload_n X 2 dX0_part_40 rfl rfl ?_
    refine g_iald X 12 rfl (w) rfl (by omega) (Nat.le_of_ble_eq_true rfl) (v := nI (plN C w)) (hC.pl hw).1 dX0_part_41 ?_
    refine g_callV X (As := [.int (nI (plN C w))]) (rest := []) (m_X1_light l D cI cJ cZ (fun i => f (1 + i)) C S Z (plN C w) hpl) kM_X0_128 kI_yX1_light kS_yX1_light kZ_RX1 kC_yX1_light hV_X1_light rfl rfl rfl 0 rfl (ci := 1) rfl ⟨Nat.le_of_ble_eq_true rfl, Nat.le_of_ble_eq_true rfl⟩ ⟨Nat.le_of_ble_eq_true rfl, Nat.le_of_ble_eq_true rfl⟩ (Nat.le_of_ble_eq_true rfl) dX0_part_42 rfl (em_I 1 10 11 0) (em_C (by decide) (Nat.le_of_ble_eq_true rfl) rfl) (em_nd (by decide)) (g_kk1 (w2 := wF f cI cJ cZ C N S Qk Z) (em3 1 10 11 0 (by decide) (Nat.le_of_ble_eq_true rfl) rfl rfl rfl) ?_)
    refine g_iconst X (v := nI 1) dX0_part_45 (by decide +kernel) ?_
    have J6 : ∀ (v5 : Int64), v5 = (if ¬ lig S (plN C w) = 1 then v2 else v2 / (2 : Int64)) → g_G p l e rm_X0_part s m args below meth c D A 6 0 0 Q (wF f cI cJ cZ C N S Qk Z) [] 60 [.long v5] := by
      intro v5 ev5
      refine g_lret X hr hlk hQ dX0_part_60 ?_
      show g_eq _ _ _ _
      try rw [ev5]
      try rw [ev2]
      exact ⟨rfl, rfl⟩
    refine g_icN_ne X (a := lig S (plN C w)) (b := 1) (tgt := 58) (by omega) (by omega) dX0_part_46 (by decide) (fun h4 => ?_) (fun h4 => ?_)
    · --
      refine g_lload X 0 dX0_part_58 rfl ?_
      refine g_lv _ [] rfl ?_
      exact J6 _ (by rw [if_pos (c := ¬ lig S (plN C w) = 1) h4])
    · --
      refine g_lload X 0 dX0_part_49 rfl ?_
      refine g_ldc2 X kL_X0_222 dX0_part_51 ?_
      refine g_ldiv X (v := v2 / (2 : Int64)) dX0_part_54 (by decide +kernel) rfl ?_
      refine g_goto X (tgt := 60) dX0_part_55 (by decide) ?_
      refine g_lv _ [] rfl ?_
      exact J6 _ (by rw [if_neg (c := ¬ lig S (plN C w) = 1) (fun z => z h4)])
  refine g_lj_le X (tgt := 26) (pc1 := 3) dX0_part_2 rfl dX0_part_3 (by decide) (fun h1 => ?_) (fun h1 => ?_)
  · --
    refine g_lconst X (v := 0) dX0_part_26 (by decide +kernel) ?_
    refine g_lv _ [0, 1] rfl ?_
    exact J3 _ (by rw [if_pos (c := x ≤ (0 : Int64)) h1])
  · --
    refine g_aload_n X 0 dX0_part_6 rfl rfl ?_
    refine g_get X (C := RX0) (T := TX0) (N := 11) (v := .long (Z 3 0)) inlX0 0 rfl rfl 8 (Nat.le_of_ble_eq_true rfl) kF_X0_57 rfl dX0_part_7 ?_
    refine g_aload_n X 0 dX0_part_10 rfl rfl ?_
    refine g_get X (C := RX0) (T := TX0) (N := 11) (v := .ref (f 11)) inlX0 0 rfl rfl 3 (Nat.le_of_ble_eq_true rfl) kF_X0_28 rfl dX0_part_11 ?_
    refine g_get X (C := RX5) (T := TX5) (N := 9) (v := .ref (f 14)) inlX5 11 rfl rfl 3 (Nat.le_of_ble_eq_true rfl) kF_X0_219 rfl dX0_part_14 ?_
    refine g_iload_n X 1 dX0_part_17 rfl rfl ?_
    refine g_iald X 14 rfl (w) rfl (by omega) (Nat.le_of_ble_eq_true rfl) (v := C 4 w) rfl dX0_part_18 ?_
    refine g_i2l X (v := (C 4 w).toInt64) dX0_part_19 rfl ?_
    refine g_lmul X (v := (Z 3 0) * ((C 4 w).toInt64)) dX0_part_20 rfl ?_
    refine g_lload_n X 2 dX0_part_21 rfl rfl ?_
    refine g_ldiv X (v := ((Z 3 0) * ((C 4 w).toInt64)) / x) dX0_part_22 (ne_le0 (by assumption)) rfl ?_
    refine g_goto X (tgt := 27) dX0_part_23 (by decide) ?_
    refine g_lv _ [0, 1] rfl ?_
    exact J3 _ (by rw [if_neg (c := x ≤ (0 : Int64)) h1])
theorem hV_X0_giveBack : yX0_giveBack.cls = RX0 ∧ yX0_giveBack.cls ≠ "java/lang/invoke/MethodHandle" ∧ yX0_giveBack.cls ≠ "java/lang/invoke/VarHandle" ∧ (parseMethodDescriptor yX0_giveBack.desc).map (fun d => d.parameters.length) = some 0 := by decide +kernel
abbrev rm_X0_giveBack : Room := { frames := 2, cells := 0, slots := 0, locals := 46 }
set_option maxRecDepth 100000 in
set_option maxHeartbeats 4000000 in
theorem m_X0_giveBack (l : Launch) (D : va_G) (cI cJ cZ : ClassId) (f : Nat → Nat) (C : Cf) (N : Nat → Nat) (S : St) (Qk : Nat → Int64) (Z : St) (hC : Cok C N) : g_Ct l D cI cJ cZ yX0_giveBack cX0_giveBack 6 none rm_X0_giveBack 0 0 [.ref (f 0)] (wF f cI cJ cZ C N S Qk Z) (g_eq none (wF f cI cJ cZ C N (gbS C N S (Z 3 0) (Z 3 2)) Qk Z)) := by
  refine g_body RX0 [(0, .ref (f 0))] kH_X0 rfl (Nat.le_of_ble_eq_true rfl) rfl ?_
  intro p e s m args below meth c A X hr hlk hmn Q hQ
  have hN0 := hC.n0
  have hN1 := hC.n1
  have hN2 := hC.n2
  refine g_aload_n X 0 dX0_giveBack_0 rfl rfl ?_
  refine g_get X (C := RX0) (T := TX0) (N := 11) (v := .ref (f 11)) inlX0 0 rfl rfl 3 (Nat.le_of_ble_eq_true rfl) kF_X0_28 rfl dX0_giveBack_1 ?_
  refine g_callV X (As := []) (rest := []) (m_X5_allWeight l D cI cJ cZ (fun i => f (11 + i)) C N S  hN0) kM_X0_202 kI_yX5_allWeight kS_yX5_allWeight kZ_RX5 kC_yX5_allWeight hV_X5_allWeight rfl rfl rfl 0 rfl (ci := 5) rfl ⟨Nat.le_of_ble_eq_true rfl, Nat.le_of_ble_eq_true rfl⟩ ⟨Nat.le_of_ble_eq_true rfl, Nat.le_of_ble_eq_true rfl⟩ (Nat.le_of_ble_eq_true rfl) dX0_giveBack_4 rfl (em_I 11 9 20 0) (em_C (by decide) (Nat.le_of_ble_eq_true rfl) rfl) (em_nd (by decide)) (g_kk1 (w2 := wF f cI cJ cZ C N S Qk Z) (em3 11 9 20 0 (by decide) (Nat.le_of_ble_eq_true rfl) rfl rfl rfl) ?_)
  refine g_lstore_n X [(1, .long (wgt C S (N 0))), (0, .ref (f 0))] dX0_giveBack_7 rfl (Nat.le_of_ble_eq_true rfl) rfl ?_
  refine g_aload_n X 1 dX0_giveBack_8 rfl rfl ?_
  refine g_get X (C := RX0) (T := TX0) (N := 11) (v := .long (Z 3 0)) inlX0 0 rfl rfl 8 (Nat.le_of_ble_eq_true rfl) kF_X0_57 rfl dX0_giveBack_9 ?_
  refine g_lstore_n X [(3, .long (Z 3 0)), (1, .long (wgt C S (N 0))), (0, .ref (f 0))] dX0_giveBack_12 rfl (Nat.le_of_ble_eq_true rfl) rfl ?_
  refine g_iconst X (v := nI 0) dX0_giveBack_13 (by decide +kernel) ?_
  refine g_istore X [(5, .int (nI 0)), (3, .long (Z 3 0)), (1, .long (wgt C S (N 0))), (0, .ref (f 0))] dX0_giveBack_14 (Nat.le_of_ble_eq_true rfl) rfl ?_
  have L1 : ∀ (n3 i2 : Nat) (S4 : St) (a5 : Int64), i2 + n3 = (N 0) → S4 = itr (gb1 C (Z 3 0) (wgt C S (N 0))) S i2 → a5 = lft C (Z 3 0) (wgt C S (N 0)) S i2 → g_G p l e rm_X0_giveBack s m args below meth c D A 6 0 0 Q (wF f cI cJ cZ C N S4 Qk Z) [(0, .ref (f 0)), (1, .long (wgt C S (N 0))), (3, .long a5), (5, .int (nI i2))] 16 [] := by
    intro n3
    induction n3 with
    | zero =>
      intro i2 S4 a5 hi6 eS4 ea5
      obtain rfl : i2 = (N 0) := by omega
      refine g_iload X 3 dX0_giveBack_16 rfl ?_
      refine g_aload_n X 0 dX0_giveBack_18 rfl rfl ?_
      refine g_get X (C := RX0) (T := TX0) (N := 11) (v := .ref (f 11)) inlX0 0 rfl rfl 3 (Nat.le_of_ble_eq_true rfl) kF_X0_28 rfl dX0_giveBack_19 ?_
      refine g_get X (C := RX5) (T := TX5) (N := 9) (v := .int (nI (N 0))) inlX5 11 rfl rfl 0 (Nat.le_of_ble_eq_true rfl) kF_X0_107 rfl dX0_giveBack_22 ?_
      refine g_icN_ge X (a := (N 0)) (b := N 0) (tgt := 76) (by omega) (by omega) dX0_giveBack_25 (by decide) (fun h7 => ?_) (fun h7 => absurd h7 (by omega))
      refine g_aload_n X 0 dX0_giveBack_76 rfl rfl ?_
      refine g_get X (C := RX0) (T := TX0) (N := 11) (v := .ref (f 34)) inlX0 0 rfl rfl 7 (Nat.le_of_ble_eq_true rfl) kF_X0_53 rfl dX0_giveBack_77 ?_
      refine g_iconst X (v := nI 2) dX0_giveBack_80 (by decide +kernel) ?_
      refine g_dup2_11 X dX0_giveBack_81 rfl rfl ?_
      refine g_lald X 34 rfl (2) rfl (by omega) (Nat.le_of_ble_eq_true rfl) (v := S4 12 2) rfl dX0_giveBack_82 ?_
      refine g_lload_n X 2 dX0_giveBack_83 rfl rfl ?_
      refine g_ladd X (v := (S4 12 2) + a5) dX0_giveBack_84 rfl ?_
      obtain ⟨S8, eS8⟩ : ∃ z : St, z = u2 S4 12 2 ((S4 12 2) + a5) := ⟨_, rfl⟩
      refine g_last X (ws' := wF f cI cJ cZ C N S8 Qk Z) 34 rfl (2) rfl (by omega) (Nat.le_of_ble_eq_true rfl) dX0_giveBack_85 (by rw [eS8]; first | done | (rfl)) ?_
      refine g_iconst X (v := nI 0) dX0_giveBack_86 (by decide +kernel) ?_
      refine g_istore X [(5, .int (nI 0)), (0, .ref (f 0)), (1, .long (wgt C S (N 0))), (3, .long a5)] dX0_giveBack_87 (Nat.le_of_ble_eq_true rfl) rfl ?_
      have L9 : ∀ (n11 i10 : Nat) (S12 : St), i10 + n11 = (N 0) → S12 = itr (gb2 C (Z 3 2)) S8 i10 → g_G p l e rm_X0_giveBack s m args below meth c D A 6 0 0 Q (wF f cI cJ cZ C N S12 Qk Z) [(0, .ref (f 0)), (5, .int (nI i10))] 89 [] := by
        intro n11
        induction n11 with
        | zero =>
          intro i10 S12 hi13 eS12
          obtain rfl : i10 = (N 0) := by omega
          refine g_iload X 1 dX0_giveBack_89 rfl ?_
          refine g_aload_n X 0 dX0_giveBack_91 rfl rfl ?_
          refine g_get X (C := RX0) (T := TX0) (N := 11) (v := .ref (f 11)) inlX0 0 rfl rfl 3 (Nat.le_of_ble_eq_true rfl) kF_X0_28 rfl dX0_giveBack_92 ?_
          refine g_get X (C := RX5) (T := TX5) (N := 9) (v := .int (nI (N 0))) inlX5 11 rfl rfl 0 (Nat.le_of_ble_eq_true rfl) kF_X0_107 rfl dX0_giveBack_95 ?_
          refine g_icN_ge X (a := (N 0)) (b := N 0) (tgt := 181) (by omega) (by omega) dX0_giveBack_98 (by decide) (fun h14 => ?_) (fun h14 => absurd h14 (by omega))
          refine g_vret X hr hlk hQ dX0_giveBack_181 ?_
          show g_eq _ _ _ _
          try rw [eS12]
          try rw [eS8]
          try rw [ea5]
          try rw [eS4]
          exact ⟨rfl, rfl⟩
        | succ n11 ihL9 =>
          intro i10 S12 hi13 eS12
          have hlti10 : i10 < (N 0) := by omega
          refine g_iload X 1 dX0_giveBack_89 rfl ?_
          refine g_aload_n X 0 dX0_giveBack_91 rfl rfl ?_
          refine g_get X (C := RX0) (T := TX0) (N := 11) (v := .ref (f 11)) inlX0 0 rfl rfl 3 (Nat.le_of_ble_eq_true rfl) kF_X0_28 rfl dX0_giveBack_92 ?_
          refine g_get X (C := RX5) (T := TX5) (N := 9) (v := .int (nI (N 0))) inlX5 11 rfl rfl 0 (Nat.le_of_ble_eq_true rfl) kF_X0_107 rfl dX0_giveBack_95 ?_
          refine g_icN_ge X (a := i10) (b := N 0) (tgt := 181) (by omega) (by omega) dX0_giveBack_98 (by decide) (fun h15 => absurd h15 (by omega)) (fun h15 => ?_)
          refine g_aload_n X 0 dX0_giveBack_101 rfl rfl ?_
          refine g_get X (C := RX0) (T := TX0) (N := 11) (v := .ref (f 11)) inlX0 0 rfl rfl 3 (Nat.le_of_ble_eq_true rfl) kF_X0_28 rfl dX0_giveBack_102 ?_
          refine g_iload X 1 dX0_giveBack_105 rfl ?_
          refine g_callV X (As := [.int (nI i10)]) (rest := []) (m_X5_isReturning l D cI cJ cZ (fun i => f (11 + i)) C N S12 i10 (by omega)) kM_X0_206 kI_yX5_isReturning kS_yX5_isReturning kZ_RX5 kC_yX5_isReturning hV_X5_isReturning rfl rfl rfl 0 rfl (ci := 5) rfl ⟨Nat.le_of_ble_eq_true rfl, Nat.le_of_ble_eq_true rfl⟩ ⟨Nat.le_of_ble_eq_true rfl, Nat.le_of_ble_eq_true rfl⟩ (Nat.le_of_ble_eq_true rfl) dX0_giveBack_107 rfl (em_I 11 9 20 0) (em_C (by decide) (Nat.le_of_ble_eq_true rfl) rfl) (em_nd (by decide)) (g_kk1 (w2 := wF f cI cJ cZ C N S12 Qk Z) (em3 11 9 20 0 (by decide) (Nat.le_of_ble_eq_true rfl) rfl rfl rfl) ?_)
          have J20 : ∀ (S19 : St), S19 = (if (ret_ C S12 i10) = false then S12 else (u2 (takeS S12 (plN C i10) (S12 5 i10) (Z 3 2)) 3 (plN C i10) (((takeS S12 (plN C i10) (S12 5 i10) (Z 3 2)) 3 (plN C i10)) + ((takeS S12 (plN C i10) (S12 5 i10) (Z 3 2)) 5 i10)))) → g_G p l e rm_X0_giveBack s m args below meth c D A 6 0 0 Q (wF f cI cJ cZ C N S19 Qk Z) [(0, .ref (f 0)), (5, .int (nI i10))] 175 [] := by
            intro S19 eS19
            refine g_iinc X [(5, .int (nI (i10 + 1))), (0, .ref (f 0))] (q := 1) (v := nI (i10 + 1)) dX0_giveBack_175 rfl ((congrArg (fun z => nI (i10) + z) (show Int32.ofInt 1 = nI 1 by decide +kernel)).trans ((nI_add _ _).trans (congrArg nI (by omega)))) (Nat.le_of_ble_eq_true rfl) rfl ?_
            refine g_goto X (tgt := 89) dX0_giveBack_178 (by decide) ?_
            refine g_lv _ [1, 0] rfl ?_
            exact ihL9 (i10 + 1) _ (by omega) (by (try rw [eS19]); (try rw [eS12]); first | done | (rfl))
          refine g_bI_eq X (tgt := 175) dX0_giveBack_110 (by decide) (fun h16 => ?_) (fun h16 => ?_)
          · --
            exact J20 _ (by rw [if_pos (c := (ret_ C S12 i10) = false) h16])
          · --
            refine g_aload_n X 0 dX0_giveBack_113 rfl rfl ?_
            refine g_get X (C := RX0) (T := TX0) (N := 11) (v := .ref (f 1)) inlX0 0 rfl rfl 2 (Nat.le_of_ble_eq_true rfl) kF_X0_21 rfl dX0_giveBack_114 ?_
            refine g_aload_n X 0 dX0_giveBack_117 rfl rfl ?_
            refine g_get X (C := RX0) (T := TX0) (N := 11) (v := .ref (f 11)) inlX0 0 rfl rfl 3 (Nat.le_of_ble_eq_true rfl) kF_X0_28 rfl dX0_giveBack_118 ?_
            refine g_get X (C := RX5) (T := TX5) (N := 9) (v := .ref (f 12)) inlX5 11 rfl rfl 1 (Nat.le_of_ble_eq_true rfl) kF_X0_121 rfl dX0_giveBack_121 ?_
            refine g_iload X 1 dX0_giveBack_124 rfl ?_
            refine g_iald X 12 rfl (i10) rfl (by omega) (Nat.le_of_ble_eq_true rfl) (v := nI (plN C i10)) (hC.pl (by omega)).1 dX0_giveBack_126 ?_
            refine g_aload_n X 0 dX0_giveBack_127 rfl rfl ?_
            refine g_get X (C := RX0) (T := TX0) (N := 11) (v := .ref (f 11)) inlX0 0 rfl rfl 3 (Nat.le_of_ble_eq_true rfl) kF_X0_28 rfl dX0_giveBack_128 ?_
            refine g_get X (C := RX5) (T := TX5) (N := 9) (v := .ref (f 16)) inlX5 11 rfl rfl 5 (Nat.le_of_ble_eq_true rfl) kF_X0_110 rfl dX0_giveBack_131 ?_
            refine g_iload X 1 dX0_giveBack_134 rfl ?_
            refine g_lald X 16 rfl (i10) rfl (by omega) (Nat.le_of_ble_eq_true rfl) (v := S12 5 i10) rfl dX0_giveBack_136 ?_
            refine g_aload_n X 0 dX0_giveBack_137 rfl rfl ?_
            refine g_get X (C := RX0) (T := TX0) (N := 11) (v := .long (Z 3 2)) inlX0 0 rfl rfl 10 (Nat.le_of_ble_eq_true rfl) kF_X0_64 rfl dX0_giveBack_138 ?_
            obtain ⟨S17, eS17⟩ : ∃ z : St, z = takeS S12 (plN C i10) (S12 5 i10) (Z 3 2) := ⟨_, rfl⟩
            refine g_callV X (As := [.int (nI (plN C i10)), .long (S12 5 i10), .long (Z 3 2)]) (rest := []) (m_X1_take l D cI cJ cZ (fun i => f (1 + i)) C S12 Z (plN C i10) (S12 5 i10) (Z 3 2) (hC.pl (by omega)).2) kM_X0_212 kI_yX1_take kS_yX1_take kZ_RX1 kC_yX1_take hV_X1_take rfl rfl rfl 0 rfl (ci := 1) rfl ⟨Nat.le_of_ble_eq_true rfl, Nat.le_of_ble_eq_true rfl⟩ ⟨Nat.le_of_ble_eq_true rfl, Nat.le_of_ble_eq_true rfl⟩ (Nat.le_of_ble_eq_true rfl) dX0_giveBack_141 rfl (em_I 1 10 11 0) (em_C (by decide) (Nat.le_of_ble_eq_true rfl) rfl) (em_nd (by decide)) (g_kk1 (w2 := wF f cI cJ cZ C N S17 Qk Z) (by rw [eS17]; exact (em3 1 10 11 0 (by decide) (Nat.le_of_ble_eq_true rfl) rfl rfl rfl)) ?_)
            refine g_aload_n X 0 dX0_giveBack_144 rfl rfl ?_
            refine g_get X (C := RX0) (T := TX0) (N := 11) (v := .ref (f 1)) inlX0 0 rfl rfl 2 (Nat.le_of_ble_eq_true rfl) kF_X0_21 rfl dX0_giveBack_145 ?_
            refine g_get X (C := RX1) (T := TX1) (N := 9) (v := .ref (f 5)) inlX1 1 rfl rfl 3 (Nat.le_of_ble_eq_true rfl) kF_X0_216 rfl dX0_giveBack_148 ?_
            refine g_aload_n X 0 dX0_giveBack_151 rfl rfl ?_
            refine g_get X (C := RX0) (T := TX0) (N := 11) (v := .ref (f 11)) inlX0 0 rfl rfl 3 (Nat.le_of_ble_eq_true rfl) kF_X0_28 rfl dX0_giveBack_152 ?_
            refine g_get X (C := RX5) (T := TX5) (N := 9) (v := .ref (f 12)) inlX5 11 rfl rfl 1 (Nat.le_of_ble_eq_true rfl) kF_X0_121 rfl dX0_giveBack_155 ?_
            refine g_iload X 1 dX0_giveBack_158 rfl ?_
            refine g_iald X 12 rfl (i10) rfl (by omega) (Nat.le_of_ble_eq_true rfl) (v := nI (plN C i10)) (hC.pl (by omega)).1 dX0_giveBack_160 ?_
            refine g_dup2_11 X dX0_giveBack_161 rfl rfl ?_
            refine g_lald X 5 rfl (plN C i10) rfl (by exact (hC.pl (by omega)).2) (Nat.le_of_ble_eq_true rfl) (v := S17 3 (plN C i10)) rfl dX0_giveBack_162 ?_
            refine g_aload_n X 0 dX0_giveBack_163 rfl rfl ?_
            refine g_get X (C := RX0) (T := TX0) (N := 11) (v := .ref (f 11)) inlX0 0 rfl rfl 3 (Nat.le_of_ble_eq_true rfl) kF_X0_28 rfl dX0_giveBack_164 ?_
            refine g_get X (C := RX5) (T := TX5) (N := 9) (v := .ref (f 16)) inlX5 11 rfl rfl 5 (Nat.le_of_ble_eq_true rfl) kF_X0_110 rfl dX0_giveBack_167 ?_
            refine g_iload X 1 dX0_giveBack_170 rfl ?_
            refine g_lald X 16 rfl (i10) rfl (by omega) (Nat.le_of_ble_eq_true rfl) (v := S17 5 i10) rfl dX0_giveBack_172 ?_
            refine g_ladd X (v := (S17 3 (plN C i10)) + (S17 5 i10)) dX0_giveBack_173 rfl ?_
            obtain ⟨S18, eS18⟩ : ∃ z : St, z = u2 S17 3 (plN C i10) ((S17 3 (plN C i10)) + (S17 5 i10)) := ⟨_, rfl⟩
            refine g_last X (ws' := wF f cI cJ cZ C N S18 Qk Z) 5 rfl (plN C i10) rfl (by exact (hC.pl (by omega)).2) (Nat.le_of_ble_eq_true rfl) dX0_giveBack_174 (by rw [eS18]; first | done | (rfl)) ?_
            exact J20 _ (by (try rw [eS18]); (try rw [eS17]); rw [if_neg (c := (ret_ C S12 i10) = false) (by rw [h16]; decide)])
      refine g_lv _ [1, 0] rfl ?_
      exact L9 ((N 0)) 0 _ (by omega) (by first | rfl | ((try rw [eS8]); (try rw [ea5]); (try rw [eS4]); first | done | rfl))
    | succ n3 ihL1 =>
      intro i2 S4 a5 hi6 eS4 ea5
      have hlti2 : i2 < (N 0) := by omega
      refine g_iload X 3 dX0_giveBack_16 rfl ?_
      refine g_aload_n X 0 dX0_giveBack_18 rfl rfl ?_
      refine g_get X (C := RX0) (T := TX0) (N := 11) (v := .ref (f 11)) inlX0 0 rfl rfl 3 (Nat.le_of_ble_eq_true rfl) kF_X0_28 rfl dX0_giveBack_19 ?_
      refine g_get X (C := RX5) (T := TX5) (N := 9) (v := .int (nI (N 0))) inlX5 11 rfl rfl 0 (Nat.le_of_ble_eq_true rfl) kF_X0_107 rfl dX0_giveBack_22 ?_
      refine g_icN_ge X (a := i2) (b := N 0) (tgt := 76) (by omega) (by omega) dX0_giveBack_25 (by decide) (fun h21 => absurd h21 (by omega)) (fun h21 => ?_)
      refine g_aload_n X 0 dX0_giveBack_28 rfl rfl ?_
      refine g_get X (C := RX0) (T := TX0) (N := 11) (v := .ref (f 11)) inlX0 0 rfl rfl 3 (Nat.le_of_ble_eq_true rfl) kF_X0_28 rfl dX0_giveBack_29 ?_
      refine g_iload X 3 dX0_giveBack_32 rfl ?_
      refine g_callV X (As := [.int (nI i2)]) (rest := []) (m_X5_isReturning l D cI cJ cZ (fun i => f (11 + i)) C N S4 i2 (by omega)) kM_X0_206 kI_yX5_isReturning kS_yX5_isReturning kZ_RX5 kC_yX5_isReturning hV_X5_isReturning rfl rfl rfl 0 rfl (ci := 5) rfl ⟨Nat.le_of_ble_eq_true rfl, Nat.le_of_ble_eq_true rfl⟩ ⟨Nat.le_of_ble_eq_true rfl, Nat.le_of_ble_eq_true rfl⟩ (Nat.le_of_ble_eq_true rfl) dX0_giveBack_34 rfl (em_I 11 9 20 0) (em_C (by decide) (Nat.le_of_ble_eq_true rfl) rfl) (em_nd (by decide)) (g_kk1 (w2 := wF f cI cJ cZ C N S4 Qk Z) (em3 11 9 20 0 (by decide) (Nat.le_of_ble_eq_true rfl) rfl rfl rfl) ?_)
      have J26 : ∀ (S24 : St) (v25 : Int64), S24 = (if (ret_ C S4 i2) = false then S4 else (u2 S4 5 i2 (partV C S4 (Z 3 0) i2 (wgt C S (N 0))))) → v25 = (if (ret_ C S4 i2) = false then a5 else a5 - (partV C S4 (Z 3 0) i2 (wgt C S (N 0)))) → g_G p l e rm_X0_giveBack s m args below meth c D A 6 0 0 Q (wF f cI cJ cZ C N S24 Qk Z) [(0, .ref (f 0)), (1, .long (wgt C S (N 0))), (3, .long v25), (5, .int (nI i2))] 70 [] := by
        intro S24 v25 eS24 ev25
        refine g_iinc X [(5, .int (nI (i2 + 1))), (0, .ref (f 0)), (1, .long (wgt C S (N 0))), (3, .long v25)] (q := 3) (v := nI (i2 + 1)) dX0_giveBack_70 rfl ((congrArg (fun z => nI (i2) + z) (show Int32.ofInt 1 = nI 1 by decide +kernel)).trans ((nI_add _ _).trans (congrArg nI (by omega)))) (Nat.le_of_ble_eq_true rfl) rfl ?_
        refine g_goto X (tgt := 16) dX0_giveBack_73 (by decide) ?_
        refine g_lv _ [1, 2, 3, 0] rfl ?_
        exact ihL1 (i2 + 1) _ _ (by omega) (by (try rw [ev25]); (try rw [eS24]); (try rw [ea5]); (try rw [eS4]); first | done | (rfl)) (by (try rw [ev25]); (try rw [eS24]); (try rw [ea5]); (try rw [eS4]); first | done | (rfl))
      refine g_bI_eq X (tgt := 70) dX0_giveBack_37 (by decide) (fun h22 => ?_) (fun h22 => ?_)
      · --
        exact J26 _ _ (by rw [if_pos (c := (ret_ C S4 i2) = false) h22]) (by rw [if_pos (c := (ret_ C S4 i2) = false) h22])
      · --
        refine g_aload_n X 0 dX0_giveBack_40 rfl rfl ?_
        refine g_get X (C := RX0) (T := TX0) (N := 11) (v := .ref (f 11)) inlX0 0 rfl rfl 3 (Nat.le_of_ble_eq_true rfl) kF_X0_28 rfl dX0_giveBack_41 ?_
        refine g_get X (C := RX5) (T := TX5) (N := 9) (v := .ref (f 16)) inlX5 11 rfl rfl 5 (Nat.le_of_ble_eq_true rfl) kF_X0_110 rfl dX0_giveBack_44 ?_
        refine g_iload X 3 dX0_giveBack_47 rfl ?_
        refine g_aload_n X 0 dX0_giveBack_49 rfl rfl ?_
        refine g_iload X 3 dX0_giveBack_50 rfl ?_
        refine g_lload_n X 1 dX0_giveBack_52 rfl rfl ?_
        refine g_callV X (As := [.int (nI i2), .long (wgt C S (N 0))]) (rest := [.int (nI i2), .ref (f 16)]) (m_X0_part l D cI cJ cZ f C N S4 Qk Z i2 (wgt C S (N 0)) hC (by omega)) kM_X0_209 kI_yX0_part kS_yX0_part kZ_RX0 kC_yX0_part hV_X0_part rfl rfl rfl 0 rfl (ci := 0) rfl ⟨Nat.le_of_ble_eq_true rfl, Nat.le_of_ble_eq_true rfl⟩ ⟨Nat.le_of_ble_eq_true rfl, Nat.le_of_ble_eq_true rfl⟩ (Nat.le_of_ble_eq_true rfl) dX0_giveBack_53 rfl (em_I 0 35 35 0) (em_C (by decide) (Nat.le_of_ble_eq_true rfl) rfl) (em_nd (by decide)) (g_kk1 (w2 := wF f cI cJ cZ C N S4 Qk Z) (em3 0 35 35 0 (by decide) (Nat.le_of_ble_eq_true rfl) rfl rfl rfl) ?_)
        obtain ⟨S23, eS23⟩ : ∃ z : St, z = u2 S4 5 i2 (partV C S4 (Z 3 0) i2 (wgt C S (N 0))) := ⟨_, rfl⟩
        refine g_last X (ws' := wF f cI cJ cZ C N S23 Qk Z) 16 rfl (i2) rfl (by omega) (Nat.le_of_ble_eq_true rfl) dX0_giveBack_56 (by rw [eS23]; first | done | (rfl)) ?_
        refine g_lload_n X 2 dX0_giveBack_57 rfl rfl ?_
        refine g_aload_n X 0 dX0_giveBack_58 rfl rfl ?_
        refine g_get X (C := RX0) (T := TX0) (N := 11) (v := .ref (f 11)) inlX0 0 rfl rfl 3 (Nat.le_of_ble_eq_true rfl) kF_X0_28 rfl dX0_giveBack_59 ?_
        refine g_get X (C := RX5) (T := TX5) (N := 9) (v := .ref (f 16)) inlX5 11 rfl rfl 5 (Nat.le_of_ble_eq_true rfl) kF_X0_110 rfl dX0_giveBack_62 ?_
        refine g_iload X 3 dX0_giveBack_65 rfl ?_
        refine g_lald X 16 rfl (i2) rfl (by omega) (Nat.le_of_ble_eq_true rfl) (v := partV C S4 (Z 3 0) i2 (wgt C S (N 0))) (by rw [eS23]; exact u2_same _ _ _ _) dX0_giveBack_67 ?_
        refine g_lsub X (v := a5 - (partV C S4 (Z 3 0) i2 (wgt C S (N 0)))) dX0_giveBack_68 rfl ?_
        refine g_lstore_n X [(3, .long (a5 - (partV C S4 (Z 3 0) i2 (wgt C S (N 0))))), (0, .ref (f 0)), (1, .long (wgt C S (N 0))), (5, .int (nI i2))] dX0_giveBack_69 rfl (Nat.le_of_ble_eq_true rfl) rfl ?_
        refine g_lv _ [1, 2, 0, 3] rfl ?_
        exact J26 _ _ (by (try rw [eS23]); rw [if_neg (c := (ret_ C S4 i2) = false) (by rw [h22]; decide)]) (by (try rw [eS23]); rw [if_neg (c := (ret_ C S4 i2) = false) (by rw [h22]; decide)])
  refine g_lv _ [3, 2, 1, 0] rfl ?_
  exact L1 ((N 0)) 0 _ _ (by omega) (by first | rfl | (first | done | rfl)) (by first | rfl | (first | done | rfl))
