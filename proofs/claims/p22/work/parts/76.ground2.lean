set_option maxRecDepth 100000 in
set_option maxHeartbeats 4000000 in
theorem n_L_ground_115 (l : Launch) (D : va_G) (cI cJ cZ : ClassId) (y : Nat → Nat) (C : Cf) (N : Nat → Nat) (S : St) (Qk : Nat → Int64) (k : Int) (hC : Cok C N) (hR : Rok C) (hX : Xok C) (hW : Wk k S) (h0 : 0 ≤ k) (hk : k + 1000 ≤ 1099511627776) (hq : S 14 0 = lN (qN S) ∧ qN S ≤ 900000) (hn2 : N 2 ≤ 3) {p : Program} {e : Env} {s : State} {m : MethodId} {args : Array Value} {below : List Frame} {meth : Method} {c : Code} {A : Nat → Prop} (X : g_Cx p s m args c D A 23 cL_ground RL cI cJ cZ) (hr : meth.sig.returnType = none) (hlk : meth.locks = false) {Q : State → Prop} (hQ : MQ below (g_Post D A (g_eq none (wL y cI cJ C N (grS C N S) (shQ S Qk 12)))) args s 3 36 A = Q) (S4 : St) (eS4 : S4 = itr shS S 12) (Qk5 : Nat → Int64) (eQk5 : Qk5 = shQ S Qk 12) : g_G p l e rm_L_ground s m args below meth c D A 23 0 0 Q (wL y cI cJ C N S4 Qk5) [(0, .ref (y 0)), (1, .ref (y 1)), (2, .ref (y 2)), (3, .ref (y 3)), (4, .ref (y 4)), (5, .ref (y 7)), (6, .ref (y 8)), (7, .ref (y 10)), (8, .ref (y 11)), (9, .ref (y 12)), (10, .int (nI 12))] 115 [] := by
  have hN0 := hC.n0
  have hN1 := hC.n1
  have hN2 := hC.n2
  have hN0 := hC.n0
  have hN1 := hC.n1
  have hN2 := hC.n2
  have h5 : Wk k S4 := hW.row (by rw [eS4]; exact m5_0 _ 12)
  have hWS : ∀ b, b < 12 → 0 ≤ (S4 0 b).toInt ∧ (S4 0 b).toInt ≤ 1099511627776 := fun b hb => ⟨(h5 b hb).1, by have := (h5 b hb).2; omega⟩
  have hWK : Wok S4 := h5.ok (by omega)
  have h6 := crk_ok C S4 k hX (by omega) h5
  refine g_bipush X (v := nI 12) dL_ground_115 (by decide +kernel) ?_
  refine g_newaJ X 12 rfl (Nat.le_of_ble_eq_true rfl) (Nat.le_of_ble_eq_true rfl) (Nat.le_of_ble_eq_true rfl) dL_ground_117 (fun q0 => ?_)
  refine g_ws (ws' := wL y cI cJ C N S4 Qk5 ++ [(q0, .inl (cJ, 12, .inr (.inl (zS 0))))]) rfl ?_
  refine g_astore X [(10, .ref q0), (0, .ref (y 0)), (1, .ref (y 1)), (2, .ref (y 2)), (3, .ref (y 3)), (4, .ref (y 4)), (5, .ref (y 7)), (6, .ref (y 8)), (7, .ref (y 10)), (8, .ref (y 11)), (9, .ref (y 12))] dL_ground_119 (Nat.le_of_ble_eq_true rfl) rfl ?_
  refine g_bipush X (v := nI 12) dL_ground_121 (by decide +kernel) ?_
  refine g_newaJ X 12 rfl (Nat.le_of_ble_eq_true rfl) (Nat.le_of_ble_eq_true rfl) (Nat.le_of_ble_eq_true rfl) dL_ground_123 (fun q1 => ?_)
  refine g_ws (ws' := wL y cI cJ C N S4 Qk5 ++ [(q0, .inl (cJ, 12, .inr (.inl (zS 0)))), (q1, .inl (cJ, 12, .inr (.inl (zS 1))))]) rfl ?_
  refine g_astore X [(11, .ref q1), (10, .ref q0), (0, .ref (y 0)), (1, .ref (y 1)), (2, .ref (y 2)), (3, .ref (y 3)), (4, .ref (y 4)), (5, .ref (y 7)), (6, .ref (y 8)), (7, .ref (y 10)), (8, .ref (y 11)), (9, .ref (y 12))] dL_ground_125 (Nat.le_of_ble_eq_true rfl) rfl ?_
  refine g_bipush X (v := nI 12) dL_ground_127 (by decide +kernel) ?_
  refine g_newaJ X 12 rfl (Nat.le_of_ble_eq_true rfl) (Nat.le_of_ble_eq_true rfl) (Nat.le_of_ble_eq_true rfl) dL_ground_129 (fun q2 => ?_)
  refine g_ws (ws' := wL y cI cJ C N S4 Qk5 ++ [(q0, .inl (cJ, 12, .inr (.inl (zS 0)))), (q1, .inl (cJ, 12, .inr (.inl (zS 1)))), (q2, .inl (cJ, 12, .inr (.inl (zS 2))))]) rfl ?_
  refine g_astore X [(12, .ref q2), (11, .ref q1), (10, .ref q0), (0, .ref (y 0)), (1, .ref (y 1)), (2, .ref (y 2)), (3, .ref (y 3)), (4, .ref (y 4)), (5, .ref (y 7)), (6, .ref (y 8)), (7, .ref (y 10)), (8, .ref (y 11)), (9, .ref (y 12))] dL_ground_131 (Nat.le_of_ble_eq_true rfl) rfl ?_
  refine g_iconst X (v := nI 0) dL_ground_133 (by decide +kernel) ?_
  refine g_istore X [(13, .int (nI 0)), (12, .ref q2), (11, .ref q1), (10, .ref q0), (0, .ref (y 0)), (1, .ref (y 1)), (2, .ref (y 2)), (3, .ref (y 3)), (4, .ref (y 4)), (5, .ref (y 7)), (6, .ref (y 8)), (7, .ref (y 10)), (8, .ref (y 11)), (9, .ref (y 12))] dL_ground_134 (Nat.le_of_ble_eq_true rfl) rfl ?_
  have L8 : ∀ (n10 i9 : Nat) (X11 : St), i9 + n10 = 12 → X11 = itr (gX C S4) zS i9 → g_G p l e rm_L_ground s m args below meth c D A 23 3 36 Q (wL y cI cJ C N S4 Qk5 ++ [(q0, .inl (cJ, 12, .inr (.inl (X11 0)))), (q1, .inl (cJ, 12, .inr (.inl (X11 1)))), (q2, .inl (cJ, 12, .inr (.inl (X11 2))))]) [(0, .ref (y 0)), (1, .ref (y 1)), (2, .ref (y 2)), (4, .ref (y 4)), (5, .ref (y 7)), (6, .ref (y 8)), (7, .ref (y 10)), (9, .ref (y 12)), (10, .ref q0), (11, .ref q1), (12, .ref q2), (13, .int (nI i9))] 136 [] := by
    intro n10
    induction n10 with
    | zero =>
      intro i9 X11 hi12 eX11
      obtain rfl : i9 = 12 := by omega
      refine g_iload X 11 dL_ground_136 rfl ?_
      refine g_bipush X (v := nI 12) dL_ground_138 (by decide +kernel) ?_
      refine g_icN_ge X (a := 12) (b := 12) (tgt := 363) (by omega) (by omega) dL_ground_140 (by decide) (fun h13 => ?_) (fun h13 => absurd h13 (by omega))
      have hXc : ∀ b, b < 12 → ∀ c, c = 0 ∨ c = 1 ∨ c = 2 → X11 c b = crk C S4 c b := by rw [eX11]; exact gX_crk C _ _
      refine g_iconst X (v := nI 0) dL_ground_363 (by decide +kernel) ?_
      refine g_istore X [(13, .int (nI 0)), (0, .ref (y 0)), (1, .ref (y 1)), (2, .ref (y 2)), (4, .ref (y 4)), (5, .ref (y 7)), (6, .ref (y 8)), (7, .ref (y 10)), (9, .ref (y 12)), (10, .ref q0), (11, .ref q1), (12, .ref q2)] dL_ground_364 (Nat.le_of_ble_eq_true rfl) rfl ?_
      have L14 : ∀ (n16 i15 : Nat) (S17 : St), i15 + n16 = 12 → S17 = itr (lwS C X11) S4 i15 → g_G p l e rm_L_ground s m args below meth c D A 23 3 36 Q (wL y cI cJ C N S17 Qk5 ++ [(q0, .inl (cJ, 12, .inr (.inl (X11 0)))), (q1, .inl (cJ, 12, .inr (.inl (X11 1)))), (q2, .inl (cJ, 12, .inr (.inl (X11 2))))]) [(0, .ref (y 0)), (1, .ref (y 1)), (2, .ref (y 2)), (5, .ref (y 7)), (6, .ref (y 8)), (7, .ref (y 10)), (9, .ref (y 12)), (10, .ref q0), (11, .ref q1), (12, .ref q2), (13, .int (nI i15))] 366 [] := by
        intro n16
        induction n16 with
        | zero =>
          intro i15 S17 hi18 eS17
          obtain rfl : i15 = 12 := by omega
          refine g_sub (ws' := wL y cI cJ C N S17 Qk5) [0, 1, 2, 3, 4, 5, 6, 7, 8, 9, 10, 11, 12] rfl (by decide) ?_
          refine g_lv [(0, .ref (y 0)), (1, .ref (y 1)), (2, .ref (y 2)), (5, .ref (y 7)), (6, .ref (y 8)), (7, .ref (y 10)), (9, .ref (y 12)), (13, .int (nI 12))] [0, 1, 2, 3, 4, 5, 6, 10] rfl ?_
          refine g_iload X 7 dL_ground_366 rfl ?_
          refine g_bipush X (v := nI 12) dL_ground_368 (by decide +kernel) ?_
          refine g_icN_ge X (a := 12) (b := 12) (tgt := 489) (by omega) (by omega) dL_ground_370 (by decide) (fun h19 => ?_) (fun h19 => absurd h19 (by omega))
          refine g_aload X 5 dL_ground_489 rfl ?_
          refine g_iconst X (v := nI 4) dL_ground_491 (by decide +kernel) ?_
          refine g_dup2_11 X dL_ground_492 rfl rfl ?_
          refine g_lald X 10 rfl (4) rfl (by omega) (Nat.le_of_ble_eq_true rfl) (v := S17 12 4) rfl dL_ground_493 ?_
          refine g_ldc2 X kL_L_66 dL_ground_494 ?_
          refine g_aload X 6 dL_ground_497 rfl ?_
          refine g_iconst X (v := nI 5) dL_ground_499 (by decide +kernel) ?_
          refine g_iald X 12 rfl (5) rfl (by omega) (Nat.le_of_ble_eq_true rfl) (v := C 10 0) rfl dL_ground_500 ?_
          refine g_i2l X (v := (C 10 0).toInt64) dL_ground_501 rfl ?_
          refine g_lmul X (v := (4 : Int64) * ((C 10 0).toInt64)) dL_ground_502 rfl ?_
          refine g_ladd X (v := (S17 12 4) + ((4 : Int64) * ((C 10 0).toInt64))) dL_ground_503 rfl ?_
          obtain ⟨S20, eS20⟩ : ∃ z : St, z = u2 S17 12 4 ((S17 12 4) + ((4 : Int64) * ((C 10 0).toInt64))) := ⟨_, rfl⟩
          refine g_last X (ws' := wL y cI cJ C N S20 Qk5) 10 rfl (4) rfl (by omega) (Nat.le_of_ble_eq_true rfl) dL_ground_504 (by rw [eS20]; first | done | (rfl)) ?_
          replace eS20 : S20 = itr (raS C) (crk C S4) 12 := by rw [eS20, eS17]; exact lw_ra C hXc
          refine g_iconst X (v := nI 0) dL_ground_505 (by decide +kernel) ?_
          exact n_L_ground_506 l D cI cJ cZ y C N S Qk k hC hR hX hW h0 hk hq hn2 X hr hlk hQ S4 eS4 Qk5 eQk5 S20 eS20
        | succ n16 ihL14 =>
          intro i15 S17 hi18 eS17
          have hlti15 : i15 < 12 := by omega
          have hX0 : 0 ≤ (X11 0 i15).toInt ∧ (X11 0 i15).toInt ≤ k := by rw [hXc i15 hlti15 0 (by simp)]; exact h6 i15 hlti15
          refine g_iload X 10 dL_ground_366 rfl ?_
          refine g_bipush X (v := nI 12) dL_ground_368 (by decide +kernel) ?_
          refine g_icN_ge X (a := i15) (b := 12) (tgt := 489) (by omega) (by omega) dL_ground_370 (by decide) (fun h53 => absurd h53 (by omega)) (fun h53 => ?_)
          refine g_aload_n X 0 dL_ground_373 rfl rfl ?_
          refine g_iload X 10 dL_ground_374 rfl ?_
          refine g_iload X 10 dL_ground_376 rfl ?_
          refine g_bipush X (v := nI 7) dL_ground_378 (by decide +kernel) ?_
          have J56 : ∀ (v55 : Int64), v55 = (if i15 ≤ 7 then X11 0 i15 else (X11 0 i15) + ((C 10 0).toInt64)) → g_G p l e rm_L_ground s m args below meth c D A 23 3 36 Q (wL y cI cJ C N S17 Qk5 ++ [(q0, .inl (cJ, 12, .inr (.inl (X11 0)))), (q1, .inl (cJ, 12, .inr (.inl (X11 1)))), (q2, .inl (cJ, 12, .inr (.inl (X11 2))))]) [(0, .ref (y 0)), (1, .ref (y 1)), (2, .ref (y 2)), (5, .ref (y 7)), (6, .ref (y 8)), (7, .ref (y 10)), (9, .ref (y 12)), (10, .ref q0), (11, .ref q1), (12, .ref q2), (13, .int (nI i15))] 402 [.long v55, .int (nI i15), .ref (y 0)] := by
            intro v55 ev55
            obtain ⟨S57, eS57⟩ : ∃ z : St, z = u2 S17 0 i15 v55 := ⟨_, rfl⟩
            refine g_last X (ws' := wL y cI cJ C N S57 Qk5 ++ [(q0, .inl (cJ, 12, .inr (.inl (X11 0)))), (q1, .inl (cJ, 12, .inr (.inl (X11 1)))), (q2, .inl (cJ, 12, .inr (.inl (X11 2))))]) 0 rfl (i15) rfl (by omega) (Nat.le_of_ble_eq_true rfl) dL_ground_402 (by rw [eS57]; first | done | (rfl)) ?_
            refine g_aload_n X 1 dL_ground_403 rfl rfl ?_
            refine g_iload X 10 dL_ground_404 rfl ?_
            refine g_iload X 10 dL_ground_406 rfl ?_
            refine g_bipush X (v := nI 7) dL_ground_408 (by decide +kernel) ?_
            have J60 : ∀ (v59 : Int64), v59 = (if i15 ≤ 7 then X11 1 i15 else (X11 1 i15) + ((80 : Int64) * ((C 10 0).toInt64))) → g_G p l e rm_L_ground s m args below meth c D A 23 3 36 Q (wL y cI cJ C N S57 Qk5 ++ [(q0, .inl (cJ, 12, .inr (.inl (X11 0)))), (q1, .inl (cJ, 12, .inr (.inl (X11 1)))), (q2, .inl (cJ, 12, .inr (.inl (X11 2))))]) [(0, .ref (y 0)), (1, .ref (y 1)), (2, .ref (y 2)), (5, .ref (y 7)), (6, .ref (y 8)), (7, .ref (y 10)), (9, .ref (y 12)), (10, .ref q0), (11, .ref q1), (12, .ref q2), (13, .int (nI i15))] 436 [.long v59, .int (nI i15), .ref (y 1)] := by
              intro v59 ev59
              obtain ⟨S61, eS61⟩ : ∃ z : St, z = u2 S57 1 i15 v59 := ⟨_, rfl⟩
              refine g_last X (ws' := wL y cI cJ C N S61 Qk5 ++ [(q0, .inl (cJ, 12, .inr (.inl (X11 0)))), (q1, .inl (cJ, 12, .inr (.inl (X11 1)))), (q2, .inl (cJ, 12, .inr (.inl (X11 2))))]) 1 rfl (i15) rfl (by omega) (Nat.le_of_ble_eq_true rfl) dL_ground_436 (by rw [eS61]; first | done | (rfl)) ?_
              refine g_aload_n X 2 dL_ground_437 rfl rfl ?_
              refine g_iload X 10 dL_ground_438 rfl ?_
              refine g_aload X 9 dL_ground_440 rfl ?_
              refine g_iload X 10 dL_ground_442 rfl ?_
              refine g_lald X 15 rfl (i15) rfl (by omega) (Nat.le_of_ble_eq_true rfl) (v := X11 2 i15) rfl dL_ground_444 ?_
              obtain ⟨S62, eS62⟩ : ∃ z : St, z = u2 S61 2 i15 (X11 2 i15) := ⟨_, rfl⟩
              refine g_last X (ws' := wL y cI cJ C N S62 Qk5 ++ [(q0, .inl (cJ, 12, .inr (.inl (X11 0)))), (q1, .inl (cJ, 12, .inr (.inl (X11 1)))), (q2, .inl (cJ, 12, .inr (.inl (X11 2))))]) 2 rfl (i15) rfl (by omega) (Nat.le_of_ble_eq_true rfl) dL_ground_445 (by rw [eS62]; first | done | (rfl)) ?_
              replace eS62 : S62 = fiS C X11 i15 S17 := by rw [eS62, eS61, eS57, ev59, ev55]; rfl
              have hfi : 0 ≤ (S62 0 i15).toInt ∧ (S62 0 i15).toInt ≤ 1099511627776 := by rw [eS62]; exact fi_b hR hX0 hk
              refine g_ldc2 X kL_L_36 dL_ground_446 ?_
              refine g_iload X 10 dL_ground_449 rfl ?_
              refine g_aload_n X 0 dL_ground_451 rfl rfl ?_
              refine g_aload_n X 1 dL_ground_452 rfl rfl ?_
              refine g_callS X (As := [.int (nI i15), .ref (y 0), .ref (y 1)]) (rest := [.long (300 : Int64)]) (m_L_hot l D cI cJ cZ y C N S62 Qk5 i15 (by omega) (ne_b hfi)) kM_L_18 kT_yL_hot kZ_RL kC_yL_hot hV_L_hot rfl rfl rfl ⟨Nat.le_of_ble_eq_true rfl, Nat.le_of_ble_eq_true rfl⟩ ⟨Nat.le_of_ble_eq_true rfl, Nat.le_of_ble_eq_true rfl⟩ (Nat.le_of_ble_eq_true rfl) dL_ground_453 rfl [0, 1, 2, 3, 4, 5, 6, 7, 8, 9, 10, 11, 12] rfl rfl (g_kk1 (w2 := wL y cI cJ C N S62 Qk5 ++ [(q0, .inl (cJ, 12, .inr (.inl (X11 0)))), (q1, .inl (cJ, 12, .inr (.inl (X11 1)))), (q2, .inl (cJ, 12, .inr (.inl (X11 2))))]) ⟨[0, 1, 2, 3, 4, 5, 6, 7, 8, 9, 10, 11, 12], [13, 14, 15], [3, 4, 5, 6, 7, 8, 9, 10, 11, 12, 13, 14, 15, 0, 1, 2], ([13, 14, 15].filterMap fun i => (wL y cI cJ C N S62 Qk5 ++ [(q0, .inl (cJ, 12, .inr (.inl (X11 0)))), (q1, .inl (cJ, 12, .inr (.inl (X11 1)))), (q2, .inl (cJ, 12, .inr (.inl (X11 2))))])[i]?), rfl, rfl, rfl, rfl, by decide, rfl, rfl⟩ ?_)
              refine g_lsub X (v := (300 : Int64) - (deg S62 i15)) dL_ground_456 rfl ?_
              refine g_lstore X [(14, .long ((300 : Int64) - (deg S62 i15))), (0, .ref (y 0)), (1, .ref (y 1)), (2, .ref (y 2)), (5, .ref (y 7)), (6, .ref (y 8)), (7, .ref (y 10)), (9, .ref (y 12)), (10, .ref q0), (11, .ref q1), (12, .ref q2), (13, .int (nI i15))] dL_ground_457 (Nat.le_of_ble_eq_true rfl) rfl ?_
              refine g_aload_n X 2 dL_ground_459 rfl rfl ?_
              refine g_iload X 11 dL_ground_460 rfl ?_
              refine g_dup2_11 X dL_ground_462 rfl rfl ?_
              refine g_lald X 1 rfl (i15) rfl (by omega) (Nat.le_of_ble_eq_true rfl) (v := S62 1 i15) rfl dL_ground_463 ?_
              refine g_lload X 0 dL_ground_464 rfl ?_
              refine g_lconst X (v := 0) dL_ground_466 (by decide +kernel) ?_
              have J65 : ∀ (v64 : Int64), v64 = (if ((300 : Int64) - (deg S62 i15)) ≤ (0 : Int64) then (0 : Int64) else (50 : Int64) * ((300 : Int64) - (deg S62 i15))) → g_G p l e rm_L_ground s m args below meth c D A 23 3 36 Q (wL y cI cJ C N S62 Qk5 ++ [(q0, .inl (cJ, 12, .inr (.inl (X11 0)))), (q1, .inl (cJ, 12, .inr (.inl (X11 1)))), (q2, .inl (cJ, 12, .inr (.inl (X11 2))))]) [(0, .ref (y 0)), (1, .ref (y 1)), (2, .ref (y 2)), (5, .ref (y 7)), (6, .ref (y 8)), (7, .ref (y 10)), (9, .ref (y 12)), (10, .ref q0), (11, .ref q1), (12, .ref q2), (13, .int (nI i15))] 481 [.long v64, .long (S62 1 i15), .int (nI i15), .ref (y 1)] := by
                intro v64 ev64
                refine g_ladd X (v := (S62 1 i15) + v64) dL_ground_481 rfl ?_
                obtain ⟨S66, eS66⟩ : ∃ z : St, z = u2 S62 1 i15 ((S62 1 i15) + v64) := ⟨_, rfl⟩
                refine g_last X (ws' := wL y cI cJ C N S66 Qk5 ++ [(q0, .inl (cJ, 12, .inr (.inl (X11 0)))), (q1, .inl (cJ, 12, .inr (.inl (X11 1)))), (q2, .inl (cJ, 12, .inr (.inl (X11 2))))]) 1 rfl (i15) rfl (by omega) (Nat.le_of_ble_eq_true rfl) dL_ground_482 (by rw [eS66]; first | done | (rfl)) ?_
                refine g_iinc X [(13, .int (nI (i15 + 1))), (0, .ref (y 0)), (1, .ref (y 1)), (2, .ref (y 2)), (5, .ref (y 7)), (6, .ref (y 8)), (7, .ref (y 10)), (9, .ref (y 12)), (10, .ref q0), (11, .ref q1), (12, .ref q2)] (q := 10) (v := nI (i15 + 1)) dL_ground_483 rfl ((congrArg (fun z => nI (i15) + z) (show Int32.ofInt 1 = nI 1 by decide +kernel)).trans ((nI_add _ _).trans (congrArg nI (by omega)))) (Nat.le_of_ble_eq_true rfl) rfl ?_
                refine g_goto X (tgt := 366) dL_ground_486 (by decide) ?_
                refine g_lv _ [1, 2, 3, 4, 5, 6, 7, 8, 9, 10, 0] rfl ?_
                exact ihL14 (i15 + 1) _ (by omega) (by show _ = lwS C X11 i15 (itr (lwS C X11) _ i15); rw [← eS17]; unfold lwS; rw [eS66, ev64, warm_l hfi, eS62])
              refine g_lj_le X (tgt := 480) (pc1 := 468) dL_ground_467 rfl dL_ground_468 (by decide) (fun h63 => ?_) (fun h63 => ?_)
              · --
                refine g_lconst X (v := 0) dL_ground_480 (by decide +kernel) ?_
                refine g_lv _ [1, 2, 3, 4, 5, 6, 7, 8, 9, 10, 11] rfl ?_
                exact J65 _ (by rw [if_pos (c := ((300 : Int64) - (deg S62 i15)) ≤ (0 : Int64)) h63])
              · --
                refine g_ldc2 X kL_L_64 dL_ground_471 ?_
                refine g_lload X 0 dL_ground_474 rfl ?_
                refine g_lmul X (v := (50 : Int64) * ((300 : Int64) - (deg S62 i15))) dL_ground_476 rfl ?_
                refine g_goto X (tgt := 481) dL_ground_477 (by decide) ?_
                refine g_lv _ [1, 2, 3, 4, 5, 6, 7, 8, 9, 10, 11] rfl ?_
                exact J65 _ (by rw [if_neg (c := ((300 : Int64) - (deg S62 i15)) ≤ (0 : Int64)) h63])
            refine g_icN_le X (a := i15) (b := 7) (tgt := 431) (by omega) (by omega) dL_ground_410 (by decide) (fun h58 => ?_) (fun h58 => ?_)
            · --
              refine g_aload X 8 dL_ground_431 rfl ?_
              refine g_iload X 10 dL_ground_433 rfl ?_
              refine g_lald X 14 rfl (i15) rfl (by omega) (Nat.le_of_ble_eq_true rfl) (v := X11 1 i15) rfl dL_ground_435 ?_
              exact J60 _ (by rw [if_pos (c := i15 ≤ 7) h58])
            · --
              refine g_aload X 8 dL_ground_413 rfl ?_
              refine g_iload X 10 dL_ground_415 rfl ?_
              refine g_lald X 14 rfl (i15) rfl (by omega) (Nat.le_of_ble_eq_true rfl) (v := X11 1 i15) rfl dL_ground_417 ?_
              refine g_ldc2 X kL_L_62 dL_ground_418 ?_
              refine g_aload X 6 dL_ground_421 rfl ?_
              refine g_iconst X (v := nI 5) dL_ground_423 (by decide +kernel) ?_
              refine g_iald X 12 rfl (5) rfl (by omega) (Nat.le_of_ble_eq_true rfl) (v := C 10 0) rfl dL_ground_424 ?_
              refine g_i2l X (v := (C 10 0).toInt64) dL_ground_425 rfl ?_
              refine g_lmul X (v := (80 : Int64) * ((C 10 0).toInt64)) dL_ground_426 rfl ?_
              refine g_ladd X (v := (X11 1 i15) + ((80 : Int64) * ((C 10 0).toInt64))) dL_ground_427 rfl ?_
              refine g_goto X (tgt := 436) dL_ground_428 (by decide) ?_
              exact J60 _ (by rw [if_neg (c := i15 ≤ 7) h58])
          refine g_icN_le X (a := i15) (b := 7) (tgt := 397) (by omega) (by omega) dL_ground_380 (by decide) (fun h54 => ?_) (fun h54 => ?_)
          · --
            refine g_aload X 7 dL_ground_397 rfl ?_
            refine g_iload X 10 dL_ground_399 rfl ?_
            refine g_lald X 13 rfl (i15) rfl (by omega) (Nat.le_of_ble_eq_true rfl) (v := X11 0 i15) rfl dL_ground_401 ?_
            exact J56 _ (by rw [if_pos (c := i15 ≤ 7) h54])
          · --
            refine g_aload X 7 dL_ground_383 rfl ?_
            refine g_iload X 10 dL_ground_385 rfl ?_
            refine g_lald X 13 rfl (i15) rfl (by omega) (Nat.le_of_ble_eq_true rfl) (v := X11 0 i15) rfl dL_ground_387 ?_
            refine g_aload X 6 dL_ground_388 rfl ?_
            refine g_iconst X (v := nI 5) dL_ground_390 (by decide +kernel) ?_
            refine g_iald X 12 rfl (5) rfl (by omega) (Nat.le_of_ble_eq_true rfl) (v := C 10 0) rfl dL_ground_391 ?_
            refine g_i2l X (v := (C 10 0).toInt64) dL_ground_392 rfl ?_
            refine g_ladd X (v := (X11 0 i15) + ((C 10 0).toInt64)) dL_ground_393 rfl ?_
            refine g_goto X (tgt := 402) dL_ground_394 (by decide) ?_
            exact J56 _ (by rw [if_neg (c := i15 ≤ 7) h54])
      refine g_lv _ [1, 2, 3, 5, 6, 7, 8, 9, 10, 11, 0] rfl ?_
      exact L14 (12) 0 _ (by omega) (by first | rfl | ((try rw [eX11]); (try rw [eQk5]); (try rw [eS4]); first | done | rfl))
    | succ n10 ihL8 =>
      intro i9 X11 hi12 eX11
      have hlti9 : i9 < 12 := by omega
      refine g_iload X 11 dL_ground_136 rfl ?_
      refine g_bipush X (v := nI 12) dL_ground_138 (by decide +kernel) ?_
      refine g_icN_ge X (a := i9) (b := 12) (tgt := 363) (by omega) (by omega) dL_ground_140 (by decide) (fun h67 => absurd h67 (by omega)) (fun h67 => ?_)
      refine g_aload X 8 dL_ground_143 rfl ?_
      refine g_iload X 11 dL_ground_145 rfl ?_
      refine g_aload_n X 0 dL_ground_147 rfl rfl ?_
      refine g_iload X 11 dL_ground_148 rfl ?_
      refine g_lald X 0 rfl (i9) rfl (by omega) (Nat.le_of_ble_eq_true rfl) (v := S4 0 i9) rfl dL_ground_150 ?_
      obtain ⟨X68, eX68⟩ : ∃ z : St, z = u2 X11 0 i9 (S4 0 i9) := ⟨_, rfl⟩
      refine g_last X (ws' := wL y cI cJ C N S4 Qk5 ++ [(q0, .inl (cJ, 12, .inr (.inl (X68 0)))), (q1, .inl (cJ, 12, .inr (.inl (X68 1)))), (q2, .inl (cJ, 12, .inr (.inl (X68 2))))]) 13 rfl (i9) rfl (by omega) (Nat.le_of_ble_eq_true rfl) dL_ground_151 (by rw [eX68]; first | done | (rfl)) ?_
      refine g_aload X 9 dL_ground_152 rfl ?_
      refine g_iload X 11 dL_ground_154 rfl ?_
      refine g_aload_n X 1 dL_ground_156 rfl rfl ?_
      refine g_iload X 11 dL_ground_157 rfl ?_
      refine g_lald X 1 rfl (i9) rfl (by omega) (Nat.le_of_ble_eq_true rfl) (v := S4 1 i9) rfl dL_ground_159 ?_
      obtain ⟨X69, eX69⟩ : ∃ z : St, z = u2 X68 1 i9 (S4 1 i9) := ⟨_, rfl⟩
      refine g_last X (ws' := wL y cI cJ C N S4 Qk5 ++ [(q0, .inl (cJ, 12, .inr (.inl (X69 0)))), (q1, .inl (cJ, 12, .inr (.inl (X69 1)))), (q2, .inl (cJ, 12, .inr (.inl (X69 2))))]) 14 rfl (i9) rfl (by omega) (Nat.le_of_ble_eq_true rfl) dL_ground_160 (by rw [eX69]; first | done | (rfl)) ?_
      refine g_aload X 10 dL_ground_161 rfl ?_
      refine g_iload X 11 dL_ground_163 rfl ?_
      refine g_aload_n X 2 dL_ground_165 rfl rfl ?_
      refine g_iload X 11 dL_ground_166 rfl ?_
      refine g_lald X 2 rfl (i9) rfl (by omega) (Nat.le_of_ble_eq_true rfl) (v := S4 2 i9) rfl dL_ground_168 ?_
      obtain ⟨X70, eX70⟩ : ∃ z : St, z = u2 X69 2 i9 (S4 2 i9) := ⟨_, rfl⟩
      refine g_last X (ws' := wL y cI cJ C N S4 Qk5 ++ [(q0, .inl (cJ, 12, .inr (.inl (X70 0)))), (q1, .inl (cJ, 12, .inr (.inl (X70 1)))), (q2, .inl (cJ, 12, .inr (.inl (X70 2))))]) 15 rfl (i9) rfl (by omega) (Nat.le_of_ble_eq_true rfl) dL_ground_169 (by rw [eX70]; first | done | (rfl)) ?_
      refine g_iconst X (v := nI 0) dL_ground_170 (by decide +kernel) ?_
      refine g_istore X [(14, .int (nI 0)), (0, .ref (y 0)), (1, .ref (y 1)), (2, .ref (y 2)), (4, .ref (y 4)), (5, .ref (y 7)), (6, .ref (y 8)), (7, .ref (y 10)), (9, .ref (y 12)), (10, .ref q0), (11, .ref q1), (12, .ref q2), (13, .int (nI i9))] dL_ground_171 (Nat.le_of_ble_eq_true rfl) rfl ?_
      have L71 : ∀ (n73 i72 : Nat) (X74 : St), i72 + n73 = 4 → X74 = itr (sdX C S4 i9) X70 i72 → g_G p l e rm_L_ground s m args below meth c D A 23 3 36 Q (wL y cI cJ C N S4 Qk5 ++ [(q0, .inl (cJ, 12, .inr (.inl (X74 0)))), (q1, .inl (cJ, 12, .inr (.inl (X74 1)))), (q2, .inl (cJ, 12, .inr (.inl (X74 2))))]) [(0, .ref (y 0)), (1, .ref (y 1)), (2, .ref (y 2)), (4, .ref (y 4)), (5, .ref (y 7)), (6, .ref (y 8)), (7, .ref (y 10)), (9, .ref (y 12)), (10, .ref q0), (11, .ref q1), (12, .ref q2), (13, .int (nI i9)), (14, .int (nI i72))] 173 [] := by
        intro n73
        induction n73 with
        | zero =>
          intro i72 X74 hi75 eX74
          obtain rfl : i72 = 4 := by omega
          refine g_iload X 12 dL_ground_173 rfl ?_
          refine g_iconst X (v := nI 4) dL_ground_175 (by decide +kernel) ?_
          refine g_icN_ge X (a := 4) (b := 4) (tgt := 357) (by omega) (by omega) dL_ground_176 (by decide) (fun h76 => ?_) (fun h76 => absurd h76 (by omega))
          refine g_iinc X [(13, .int (nI (i9 + 1))), (0, .ref (y 0)), (1, .ref (y 1)), (2, .ref (y 2)), (4, .ref (y 4)), (5, .ref (y 7)), (6, .ref (y 8)), (7, .ref (y 10)), (9, .ref (y 12)), (10, .ref q0), (11, .ref q1), (12, .ref q2), (14, .int (nI 4))] (q := 11) (v := nI (i9 + 1)) dL_ground_357 rfl ((congrArg (fun z => nI (i9) + z) (show Int32.ofInt 1 = nI 1 by decide +kernel)).trans ((nI_add _ _).trans (congrArg nI (by omega)))) (Nat.le_of_ble_eq_true rfl) rfl ?_
          refine g_goto X (tgt := 136) dL_ground_360 (by decide) ?_
          refine g_lv _ [1, 2, 3, 4, 5, 6, 7, 8, 9, 10, 11, 0] rfl ?_
          exact ihL8 (i9 + 1) _ (by omega) (by show _ = gX C S4 i9 (itr (gX C S4) zS i9); rw [← eX11]; unfold gX; rw [eX74, eX70, eX69, eX68] <;> rfl)
        | succ n73 ihL71 =>
          intro i72 X74 hi75 eX74
          have hlti72 : i72 < 4 := by omega
          refine g_iload X 12 dL_ground_173 rfl ?_
          refine g_iconst X (v := nI 4) dL_ground_175 (by decide +kernel) ?_
          refine g_icN_ge X (a := i72) (b := 4) (tgt := 357) (by omega) (by omega) dL_ground_176 (by decide) (fun h77 => absurd h77 (by omega)) (fun h77 => ?_)
          refine g_iload X 11 dL_ground_179 rfl ?_
          refine g_iload X 12 dL_ground_181 rfl ?_
          refine g_callS X (As := [.int (nI i9), .int (nI i72)]) (rest := []) (m_L_beside l D cI cJ cZ i9 i72 (by omega) (by omega)) kM_L_10 kT_yL_beside kZ_RL kC_yL_beside hV_L_beside rfl rfl rfl ⟨Nat.le_of_ble_eq_true rfl, Nat.le_of_ble_eq_true rfl⟩ ⟨Nat.le_of_ble_eq_true rfl, Nat.le_of_ble_eq_true rfl⟩ (Nat.le_of_ble_eq_true rfl) dL_ground_183 rfl [] rfl rfl (g_kk1 (w2 := wL y cI cJ C N S4 Qk5 ++ [(q0, .inl (cJ, 12, .inr (.inl (X74 0)))), (q1, .inl (cJ, 12, .inr (.inl (X74 1)))), (q2, .inl (cJ, 12, .inr (.inl (X74 2))))]) ⟨[], [0, 1, 2, 3, 4, 5, 6, 7, 8, 9, 10, 11, 12, 13, 14, 15], [0, 1, 2, 3, 4, 5, 6, 7, 8, 9, 10, 11, 12, 13, 14, 15], ([0, 1, 2, 3, 4, 5, 6, 7, 8, 9, 10, 11, 12, 13, 14, 15].filterMap fun i => (wL y cI cJ C N S4 Qk5 ++ [(q0, .inl (cJ, 12, .inr (.inl (X74 0)))), (q1, .inl (cJ, 12, .inr (.inl (X74 1)))), (q2, .inl (cJ, 12, .inr (.inl (X74 2))))])[i]?), rfl, rfl, rfl, rfl, by decide, rfl, rfl⟩ ?_)
          by_cases hx : bsd i9 i72 = -1
          · --
            refine g_st (st' := [.int (-1)]) (by rw [hx]; first | done | rfl) ?_
            refine g_istore X [(15, .int (-1 : Int32)), (0, .ref (y 0)), (1, .ref (y 1)), (2, .ref (y 2)), (4, .ref (y 4)), (5, .ref (y 7)), (6, .ref (y 8)), (7, .ref (y 10)), (9, .ref (y 12)), (10, .ref q0), (11, .ref q1), (12, .ref q2), (13, .int (nI i9)), (14, .int (nI i72))] dL_ground_186 (Nat.le_of_ble_eq_true rfl) rfl ?_
            refine g_iload X 0 dL_ground_188 rfl ?_
            refine g_if_ge X (tgt := 197) dL_ground_190 (by decide) (fun h78 => absurd h78 (by decide)) (fun h78 => ?_)
            refine g_lconst X (v := 0) dL_ground_193 (by decide +kernel) ?_
            refine g_goto X (tgt := 206) dL_ground_194 (by decide) ?_
            refine g_lstore X [(16, .long (0 : Int64)), (15, .int (-1 : Int32)), (0, .ref (y 0)), (1, .ref (y 1)), (2, .ref (y 2)), (4, .ref (y 4)), (5, .ref (y 7)), (6, .ref (y 8)), (7, .ref (y 10)), (9, .ref (y 12)), (10, .ref q0), (11, .ref q1), (12, .ref q2), (13, .int (nI i9)), (14, .int (nI i72))] dL_ground_206 (Nat.le_of_ble_eq_true rfl) rfl ?_
            refine g_lload X 0 dL_ground_208 rfl ?_
            refine g_lconst X (v := 0) dL_ground_210 (by decide +kernel) ?_
            refine g_lj_le X (tgt := 220) (pc1 := 212) dL_ground_211 rfl dL_ground_212 (by decide) (fun h79 => ?_) (fun h79 => absurd (Int64.le_refl 0) h79)
            refine g_iload X 13 dL_ground_220 rfl ?_
            refine g_istore X [(18, .int (nI i9)), (16, .long (0 : Int64)), (15, .int (-1 : Int32)), (0, .ref (y 0)), (1, .ref (y 1)), (2, .ref (y 2)), (4, .ref (y 4)), (5, .ref (y 7)), (6, .ref (y 8)), (7, .ref (y 10)), (9, .ref (y 12)), (10, .ref q0), (11, .ref q1), (12, .ref q2), (13, .int (nI i9)), (14, .int (nI i72))] dL_ground_222 (Nat.le_of_ble_eq_true rfl) rfl ?_
            refine g_lload X 1 dL_ground_224 rfl ?_
            refine g_lconst X (v := 0) dL_ground_226 (by decide +kernel) ?_
            refine g_lj_ne X (tgt := 235) (pc1 := 228) dL_ground_227 rfl dL_ground_228 (by decide) (fun h80 => absurd rfl h80) (fun h80 => ?_)
            refine g_lconst X (v := 0) dL_ground_231 (by decide +kernel) ?_
            refine g_goto X (tgt := 265) dL_ground_232 (by decide) ?_
            have hs0 : sdL fwL C S4 i9 i72 = 0 := sd_n hx
            have hs1 : sdL fhL C S4 i9 i72 = 0 := sd_n hx
            have hs2 : sdL ftL C S4 i9 i72 = 0 := sd_n hx
            refine g_lstore X [(19, .long (0 : Int64)), (18, .int (nI i9)), (16, .long (0 : Int64)), (15, .int (-1 : Int32)), (0, .ref (y 0)), (1, .ref (y 1)), (2, .ref (y 2)), (4, .ref (y 4)), (5, .ref (y 7)), (6, .ref (y 8)), (7, .ref (y 10)), (9, .ref (y 12)), (10, .ref q0), (11, .ref q1), (12, .ref q2), (13, .int (nI i9)), (14, .int (nI i72))] dL_ground_265 (Nat.le_of_ble_eq_true rfl) rfl ?_
            refine g_lload X 2 dL_ground_267 rfl ?_
            refine g_lconst X (v := 0) dL_ground_269 (by decide +kernel) ?_
            refine g_lj_le X (tgt := 278) (pc1 := 271) dL_ground_270 rfl dL_ground_271 (by decide) (fun h81 => ?_) (fun h81 => absurd (Int64.le_refl 0) h81)
            refine g_ldc2 X kL_L_60 dL_ground_278 ?_
            refine g_lstore X [(21, .long (-1 : Int64)), (19, .long (0 : Int64)), (18, .int (nI i9)), (16, .long (0 : Int64)), (15, .int (-1 : Int32)), (0, .ref (y 0)), (1, .ref (y 1)), (2, .ref (y 2)), (4, .ref (y 4)), (5, .ref (y 7)), (6, .ref (y 8)), (7, .ref (y 10)), (9, .ref (y 12)), (10, .ref q0), (11, .ref q1), (12, .ref q2), (13, .int (nI i9)), (14, .int (nI i72))] dL_ground_281 (Nat.le_of_ble_eq_true rfl) rfl ?_
            refine g_aload X 13 dL_ground_283 rfl ?_
            refine g_iload X 16 dL_ground_285 rfl ?_
            refine g_dup2_11 X dL_ground_287 rfl rfl ?_
            refine g_lald X 13 rfl (i9) rfl (by omega) (Nat.le_of_ble_eq_true rfl) (v := X74 0 i9) rfl dL_ground_288 ?_
            refine g_lload X 0 dL_ground_289 rfl ?_
            refine g_lload X 1 dL_ground_291 rfl ?_
            refine g_lmul X (v := (0 : Int64)) dL_ground_293 (by decide) ?_
            refine g_ladd X (v := (X74 0 i9) + (0 : Int64)) dL_ground_294 rfl ?_
            obtain ⟨X82, eX82⟩ : ∃ z : St, z = u2 X74 0 i9 ((X74 0 i9) + (0 : Int64)) := ⟨_, rfl⟩
            refine g_last X (ws' := wL y cI cJ C N S4 Qk5 ++ [(q0, .inl (cJ, 12, .inr (.inl (X82 0)))), (q1, .inl (cJ, 12, .inr (.inl (X82 1)))), (q2, .inl (cJ, 12, .inr (.inl (X82 2))))]) 13 rfl (i9) rfl (by omega) (Nat.le_of_ble_eq_true rfl) dL_ground_295 (by rw [eX82]; first | done | (rfl)) ?_
            refine g_aload X 14 dL_ground_296 rfl ?_
            refine g_iload X 16 dL_ground_298 rfl ?_
            refine g_dup2_11 X dL_ground_300 rfl rfl ?_
            refine g_lald X 14 rfl (i9) rfl (by omega) (Nat.le_of_ble_eq_true rfl) (v := X82 1 i9) rfl dL_ground_301 ?_
            refine g_lload X 0 dL_ground_302 rfl ?_
            refine g_lload X 1 dL_ground_304 rfl ?_
            refine g_lmul X (v := (0 : Int64)) dL_ground_306 (by decide) ?_
            refine g_iload X 2 dL_ground_307 rfl ?_
            refine g_aload_n X 5 dL_ground_309 rfl rfl ?_
            refine g_aload_n X 6 dL_ground_310 rfl rfl ?_
            refine g_callS X (As := [.int (nI i9), .ref (y 0), .ref (y 1)]) (rest := [.long (0 : Int64), .long (X82 1 i9), .int (nI i9), .ref q1]) (m_L_hot l D cI cJ cZ y C N S4 Qk5 i9 (by omega) (hWK.ne (by omega))) kM_L_18 kT_yL_hot kZ_RL kC_yL_hot hV_L_hot rfl rfl rfl ⟨Nat.le_of_ble_eq_true rfl, Nat.le_of_ble_eq_true rfl⟩ ⟨Nat.le_of_ble_eq_true rfl, Nat.le_of_ble_eq_true rfl⟩ (Nat.le_of_ble_eq_true rfl) dL_ground_311 rfl [0, 1, 2, 3, 4, 5, 6, 7, 8, 9, 10, 11, 12] rfl rfl (g_kk1 (w2 := wL y cI cJ C N S4 Qk5 ++ [(q0, .inl (cJ, 12, .inr (.inl (X82 0)))), (q1, .inl (cJ, 12, .inr (.inl (X82 1)))), (q2, .inl (cJ, 12, .inr (.inl (X82 2))))]) ⟨[0, 1, 2, 3, 4, 5, 6, 7, 8, 9, 10, 11, 12], [13, 14, 15], [3, 4, 5, 6, 7, 8, 9, 10, 11, 12, 13, 14, 15, 0, 1, 2], ([13, 14, 15].filterMap fun i => (wL y cI cJ C N S4 Qk5 ++ [(q0, .inl (cJ, 12, .inr (.inl (X82 0)))), (q1, .inl (cJ, 12, .inr (.inl (X82 1)))), (q2, .inl (cJ, 12, .inr (.inl (X82 2))))])[i]?), rfl, rfl, rfl, rfl, by decide, rfl, rfl⟩ ?_)
            refine g_lmul X (v := (0 : Int64)) dL_ground_314 (by rw [Int64.zero_mul]) ?_
            refine g_ladd X (v := (X82 1 i9) + (0 : Int64)) dL_ground_315 rfl ?_
            obtain ⟨X83, eX83⟩ : ∃ z : St, z = u2 X82 1 i9 ((X82 1 i9) + (0 : Int64)) := ⟨_, rfl⟩
            refine g_last X (ws' := wL y cI cJ C N S4 Qk5 ++ [(q0, .inl (cJ, 12, .inr (.inl (X83 0)))), (q1, .inl (cJ, 12, .inr (.inl (X83 1)))), (q2, .inl (cJ, 12, .inr (.inl (X83 2))))]) 14 rfl (i9) rfl (by omega) (Nat.le_of_ble_eq_true rfl) dL_ground_316 (by rw [eX83]; first | done | (rfl)) ?_
            refine g_aload X 15 dL_ground_317 rfl ?_
            refine g_iload X 16 dL_ground_319 rfl ?_
            refine g_dup2_11 X dL_ground_321 rfl rfl ?_
            refine g_lald X 15 rfl (i9) rfl (by omega) (Nat.le_of_ble_eq_true rfl) (v := X83 2 i9) rfl dL_ground_322 ?_
            refine g_lload X 1 dL_ground_323 rfl ?_
            refine g_lconst X (v := 0) dL_ground_325 (by decide +kernel) ?_
            refine g_lj_ne X (tgt := 334) (pc1 := 327) dL_ground_326 rfl dL_ground_327 (by decide) (fun h84 => absurd rfl h84) (fun h84 => ?_)
            refine g_lconst X (v := 0) dL_ground_330 (by decide +kernel) ?_
            refine g_goto X (tgt := 349) dL_ground_331 (by decide) ?_
            refine g_ladd X (v := (X83 2 i9) + (0 : Int64)) dL_ground_349 rfl ?_
            obtain ⟨X85, eX85⟩ : ∃ z : St, z = u2 X83 2 i9 ((X83 2 i9) + (0 : Int64)) := ⟨_, rfl⟩
            refine g_last X (ws' := wL y cI cJ C N S4 Qk5 ++ [(q0, .inl (cJ, 12, .inr (.inl (X85 0)))), (q1, .inl (cJ, 12, .inr (.inl (X85 1)))), (q2, .inl (cJ, 12, .inr (.inl (X85 2))))]) 15 rfl (i9) rfl (by omega) (Nat.le_of_ble_eq_true rfl) dL_ground_350 (by rw [eX85]; first | done | (rfl)) ?_
            refine g_iinc X [(14, .int (nI (i72 + 1))), (21, .long (-1 : Int64)), (19, .long (0 : Int64)), (18, .int (nI i9)), (16, .long (0 : Int64)), (15, .int (-1 : Int32)), (0, .ref (y 0)), (1, .ref (y 1)), (2, .ref (y 2)), (4, .ref (y 4)), (5, .ref (y 7)), (6, .ref (y 8)), (7, .ref (y 10)), (9, .ref (y 12)), (10, .ref q0), (11, .ref q1), (12, .ref q2), (13, .int (nI i9))] (q := 17) (v := nI (i72 + 1)) dL_ground_351 rfl ((congrArg (fun z => nI (i72) + z) (show Int32.ofInt 1 = nI 1 by decide +kernel)).trans ((nI_add _ _).trans (congrArg nI (by omega)))) (Nat.le_of_ble_eq_true rfl) rfl ?_
            refine g_goto X (tgt := 173) dL_ground_354 (by decide) ?_
            refine g_lv _ [6, 7, 8, 9, 10, 11, 12, 13, 14, 15, 16, 17, 0] rfl ?_
            exact ihL71 (i72 + 1) _ (by omega) (by show _ = sdX C S4 i9 i72 (itr (sdX C S4 i9) _ i72); rw [← eX74]; unfold sdX; rw [hs0, hs1, hs2, eX85, eX83, eX82]; rfl)
          · --
            obtain ⟨o, ho, ho12⟩ := (bsd_neg i9 i72 (by omega) (by omega)).resolve_left hx
            refine g_st (st' := [.int (nI o)]) (by rw [ho]; first | done | rfl) ?_
            refine g_istore X [(15, .int (nI o)), (0, .ref (y 0)), (1, .ref (y 1)), (2, .ref (y 2)), (4, .ref (y 4)), (5, .ref (y 7)), (6, .ref (y 8)), (7, .ref (y 10)), (9, .ref (y 12)), (10, .ref q0), (11, .ref q1), (12, .ref q2), (13, .int (nI i9)), (14, .int (nI i72))] dL_ground_186 (Nat.le_of_ble_eq_true rfl) rfl ?_
            refine g_iload X 0 dL_ground_188 rfl ?_
            refine g_if_ge X (tgt := 197) dL_ground_190 (by decide) (fun h86 => ?_) (fun h86 => absurd (nI_nn (by omega)) h86)
            by_cases hcx : S4 0 o ≤ S4 0 i9
            · --
              refine g_aload_n X 1 dL_ground_197 rfl rfl ?_
              by_cases hcy : S4 0 i9 ≤ S4 0 o
              · --
                refine g_iload X 0 dL_ground_198 rfl ?_
                refine g_lald X 0 rfl (o) rfl (by omega) (Nat.le_of_ble_eq_true rfl) (v := S4 0 o) rfl dL_ground_200 ?_
                refine g_aload_n X 1 dL_ground_201 rfl rfl ?_
                refine g_iload X 12 dL_ground_202 rfl ?_
                refine g_lald X 0 rfl (i9) rfl (by omega) (Nat.le_of_ble_eq_true rfl) (v := S4 0 i9) rfl dL_ground_204 ?_
                refine g_lsub X (v := (S4 0 o) - (S4 0 i9)) dL_ground_205 rfl ?_
                have hap := ap_0 hcx hcy
                refine g_st (st' := [.long 0]) (by rw [hap]; first | done | rfl) ?_
                refine g_lstore X [(16, .long (0 : Int64)), (15, .int (nI o)), (0, .ref (y 0)), (1, .ref (y 1)), (2, .ref (y 2)), (4, .ref (y 4)), (5, .ref (y 7)), (6, .ref (y 8)), (7, .ref (y 10)), (9, .ref (y 12)), (10, .ref q0), (11, .ref q1), (12, .ref q2), (13, .int (nI i9)), (14, .int (nI i72))] dL_ground_206 (Nat.le_of_ble_eq_true rfl) rfl ?_
                refine g_lload X 0 dL_ground_208 rfl ?_
                refine g_lconst X (v := 0) dL_ground_210 (by decide +kernel) ?_
                refine g_lj_le X (tgt := 220) (pc1 := 212) dL_ground_211 rfl dL_ground_212 (by decide) (fun h87 => ?_) (fun h87 => absurd (Int64.le_refl 0) h87)
                refine g_iload X 13 dL_ground_220 rfl ?_
                refine g_istore X [(18, .int (nI i9)), (16, .long (0 : Int64)), (15, .int (nI o)), (0, .ref (y 0)), (1, .ref (y 1)), (2, .ref (y 2)), (4, .ref (y 4)), (5, .ref (y 7)), (6, .ref (y 8)), (7, .ref (y 10)), (9, .ref (y 12)), (10, .ref q0), (11, .ref q1), (12, .ref q2), (13, .int (nI i9)), (14, .int (nI i72))] dL_ground_222 (Nat.le_of_ble_eq_true rfl) rfl ?_
                refine g_lload X 1 dL_ground_224 rfl ?_
                refine g_lconst X (v := 0) dL_ground_226 (by decide +kernel) ?_
                refine g_lj_ne X (tgt := 235) (pc1 := 228) dL_ground_227 rfl dL_ground_228 (by decide) (fun h88 => absurd rfl h88) (fun h88 => ?_)
                refine g_lconst X (v := 0) dL_ground_231 (by decide +kernel) ?_
                refine g_goto X (tgt := 265) dL_ground_232 (by decide) ?_
                obtain ⟨hf0, hf1, hf2⟩ := f_A (wd := wdL C i9 i72) hcx hcy
                have hs0 : sdL fwL C S4 i9 i72 = 0 := (sd_y hx ho ho12).trans hf0
                have hs1 : sdL fhL C S4 i9 i72 = 0 := (sd_y hx ho ho12).trans hf1
                have hs2 : sdL ftL C S4 i9 i72 = 0 := (sd_y hx ho ho12).trans hf2
                refine g_lstore X [(19, .long (0 : Int64)), (18, .int (nI i9)), (16, .long (0 : Int64)), (15, .int (nI o)), (0, .ref (y 0)), (1, .ref (y 1)), (2, .ref (y 2)), (4, .ref (y 4)), (5, .ref (y 7)), (6, .ref (y 8)), (7, .ref (y 10)), (9, .ref (y 12)), (10, .ref q0), (11, .ref q1), (12, .ref q2), (13, .int (nI i9)), (14, .int (nI i72))] dL_ground_265 (Nat.le_of_ble_eq_true rfl) rfl ?_
                refine g_lload X 2 dL_ground_267 rfl ?_
                refine g_lconst X (v := 0) dL_ground_269 (by decide +kernel) ?_
                refine g_lj_le X (tgt := 278) (pc1 := 271) dL_ground_270 rfl dL_ground_271 (by decide) (fun h89 => ?_) (fun h89 => absurd (Int64.le_refl 0) h89)
                refine g_ldc2 X kL_L_60 dL_ground_278 ?_
                refine g_lstore X [(21, .long (-1 : Int64)), (19, .long (0 : Int64)), (18, .int (nI i9)), (16, .long (0 : Int64)), (15, .int (nI o)), (0, .ref (y 0)), (1, .ref (y 1)), (2, .ref (y 2)), (4, .ref (y 4)), (5, .ref (y 7)), (6, .ref (y 8)), (7, .ref (y 10)), (9, .ref (y 12)), (10, .ref q0), (11, .ref q1), (12, .ref q2), (13, .int (nI i9)), (14, .int (nI i72))] dL_ground_281 (Nat.le_of_ble_eq_true rfl) rfl ?_
                refine g_aload X 13 dL_ground_283 rfl ?_
                refine g_iload X 16 dL_ground_285 rfl ?_
                refine g_dup2_11 X dL_ground_287 rfl rfl ?_
                refine g_lald X 13 rfl (i9) rfl (by omega) (Nat.le_of_ble_eq_true rfl) (v := X74 0 i9) rfl dL_ground_288 ?_
                refine g_lload X 0 dL_ground_289 rfl ?_
                refine g_lload X 1 dL_ground_291 rfl ?_
                refine g_lmul X (v := (0 : Int64)) dL_ground_293 (by decide) ?_
                refine g_ladd X (v := (X74 0 i9) + (0 : Int64)) dL_ground_294 rfl ?_
                obtain ⟨X90, eX90⟩ : ∃ z : St, z = u2 X74 0 i9 ((X74 0 i9) + (0 : Int64)) := ⟨_, rfl⟩
                refine g_last X (ws' := wL y cI cJ C N S4 Qk5 ++ [(q0, .inl (cJ, 12, .inr (.inl (X90 0)))), (q1, .inl (cJ, 12, .inr (.inl (X90 1)))), (q2, .inl (cJ, 12, .inr (.inl (X90 2))))]) 13 rfl (i9) rfl (by omega) (Nat.le_of_ble_eq_true rfl) dL_ground_295 (by rw [eX90]; first | done | (rfl)) ?_
                refine g_aload X 14 dL_ground_296 rfl ?_
                refine g_iload X 16 dL_ground_298 rfl ?_
                refine g_dup2_11 X dL_ground_300 rfl rfl ?_
                refine g_lald X 14 rfl (i9) rfl (by omega) (Nat.le_of_ble_eq_true rfl) (v := X90 1 i9) rfl dL_ground_301 ?_
                refine g_lload X 0 dL_ground_302 rfl ?_
                refine g_lload X 1 dL_ground_304 rfl ?_
                refine g_lmul X (v := (0 : Int64)) dL_ground_306 (by decide) ?_
                refine g_iload X 2 dL_ground_307 rfl ?_
                refine g_aload_n X 5 dL_ground_309 rfl rfl ?_
                refine g_aload_n X 6 dL_ground_310 rfl rfl ?_
                refine g_callS X (As := [.int (nI i9), .ref (y 0), .ref (y 1)]) (rest := [.long (0 : Int64), .long (X90 1 i9), .int (nI i9), .ref q1]) (m_L_hot l D cI cJ cZ y C N S4 Qk5 i9 (by omega) (hWK.ne (by omega))) kM_L_18 kT_yL_hot kZ_RL kC_yL_hot hV_L_hot rfl rfl rfl ⟨Nat.le_of_ble_eq_true rfl, Nat.le_of_ble_eq_true rfl⟩ ⟨Nat.le_of_ble_eq_true rfl, Nat.le_of_ble_eq_true rfl⟩ (Nat.le_of_ble_eq_true rfl) dL_ground_311 rfl [0, 1, 2, 3, 4, 5, 6, 7, 8, 9, 10, 11, 12] rfl rfl (g_kk1 (w2 := wL y cI cJ C N S4 Qk5 ++ [(q0, .inl (cJ, 12, .inr (.inl (X90 0)))), (q1, .inl (cJ, 12, .inr (.inl (X90 1)))), (q2, .inl (cJ, 12, .inr (.inl (X90 2))))]) ⟨[0, 1, 2, 3, 4, 5, 6, 7, 8, 9, 10, 11, 12], [13, 14, 15], [3, 4, 5, 6, 7, 8, 9, 10, 11, 12, 13, 14, 15, 0, 1, 2], ([13, 14, 15].filterMap fun i => (wL y cI cJ C N S4 Qk5 ++ [(q0, .inl (cJ, 12, .inr (.inl (X90 0)))), (q1, .inl (cJ, 12, .inr (.inl (X90 1)))), (q2, .inl (cJ, 12, .inr (.inl (X90 2))))])[i]?), rfl, rfl, rfl, rfl, by decide, rfl, rfl⟩ ?_)
                refine g_lmul X (v := (0 : Int64)) dL_ground_314 (by rw [Int64.zero_mul]) ?_
                refine g_ladd X (v := (X90 1 i9) + (0 : Int64)) dL_ground_315 rfl ?_
                obtain ⟨X91, eX91⟩ : ∃ z : St, z = u2 X90 1 i9 ((X90 1 i9) + (0 : Int64)) := ⟨_, rfl⟩
                refine g_last X (ws' := wL y cI cJ C N S4 Qk5 ++ [(q0, .inl (cJ, 12, .inr (.inl (X91 0)))), (q1, .inl (cJ, 12, .inr (.inl (X91 1)))), (q2, .inl (cJ, 12, .inr (.inl (X91 2))))]) 14 rfl (i9) rfl (by omega) (Nat.le_of_ble_eq_true rfl) dL_ground_316 (by rw [eX91]; first | done | (rfl)) ?_
                refine g_aload X 15 dL_ground_317 rfl ?_
                refine g_iload X 16 dL_ground_319 rfl ?_
                refine g_dup2_11 X dL_ground_321 rfl rfl ?_
                refine g_lald X 15 rfl (i9) rfl (by omega) (Nat.le_of_ble_eq_true rfl) (v := X91 2 i9) rfl dL_ground_322 ?_
                refine g_lload X 1 dL_ground_323 rfl ?_
                refine g_lconst X (v := 0) dL_ground_325 (by decide +kernel) ?_
                refine g_lj_ne X (tgt := 334) (pc1 := 327) dL_ground_326 rfl dL_ground_327 (by decide) (fun h92 => absurd rfl h92) (fun h92 => ?_)
                refine g_lconst X (v := 0) dL_ground_330 (by decide +kernel) ?_
                refine g_goto X (tgt := 349) dL_ground_331 (by decide) ?_
                refine g_ladd X (v := (X91 2 i9) + (0 : Int64)) dL_ground_349 rfl ?_
                obtain ⟨X93, eX93⟩ : ∃ z : St, z = u2 X91 2 i9 ((X91 2 i9) + (0 : Int64)) := ⟨_, rfl⟩
                refine g_last X (ws' := wL y cI cJ C N S4 Qk5 ++ [(q0, .inl (cJ, 12, .inr (.inl (X93 0)))), (q1, .inl (cJ, 12, .inr (.inl (X93 1)))), (q2, .inl (cJ, 12, .inr (.inl (X93 2))))]) 15 rfl (i9) rfl (by omega) (Nat.le_of_ble_eq_true rfl) dL_ground_350 (by rw [eX93]; first | done | (rfl)) ?_
                refine g_iinc X [(14, .int (nI (i72 + 1))), (21, .long (-1 : Int64)), (19, .long (0 : Int64)), (18, .int (nI i9)), (16, .long (0 : Int64)), (15, .int (nI o)), (0, .ref (y 0)), (1, .ref (y 1)), (2, .ref (y 2)), (4, .ref (y 4)), (5, .ref (y 7)), (6, .ref (y 8)), (7, .ref (y 10)), (9, .ref (y 12)), (10, .ref q0), (11, .ref q1), (12, .ref q2), (13, .int (nI i9))] (q := 17) (v := nI (i72 + 1)) dL_ground_351 rfl ((congrArg (fun z => nI (i72) + z) (show Int32.ofInt 1 = nI 1 by decide +kernel)).trans ((nI_add _ _).trans (congrArg nI (by omega)))) (Nat.le_of_ble_eq_true rfl) rfl ?_
                refine g_goto X (tgt := 173) dL_ground_354 (by decide) ?_
                refine g_lv _ [6, 7, 8, 9, 10, 11, 12, 13, 14, 15, 16, 17, 0] rfl ?_
                exact ihL71 (i72 + 1) _ (by omega) (by show _ = sdX C S4 i9 i72 (itr (sdX C S4 i9) _ i72); rw [← eX74]; unfold sdX; rw [hs0, hs1, hs2, eX93, eX91, eX90]; rfl)
              · --
                refine g_iload X 0 dL_ground_198 rfl ?_
                refine g_lald X 0 rfl (o) rfl (by omega) (Nat.le_of_ble_eq_true rfl) (v := S4 0 o) rfl dL_ground_200 ?_
                refine g_aload_n X 1 dL_ground_201 rfl rfl ?_
                refine g_iload X 12 dL_ground_202 rfl ?_
                refine g_lald X 0 rfl (i9) rfl (by omega) (Nat.le_of_ble_eq_true rfl) (v := S4 0 i9) rfl dL_ground_204 ?_
                refine g_lsub X (v := (S4 0 o) - (S4 0 i9)) dL_ground_205 rfl ?_
                obtain ⟨hap1, hap0, hnz⟩ := ap_n ⟨(hWS _ ho12).1, (hWS _ ho12).2⟩ ⟨(hWS _ hlti9).1, (hWS _ hlti9).2⟩ hcx hcy
                refine g_lstore X [(16, .long ((S4 0 o) - (S4 0 i9))), (15, .int (nI o)), (0, .ref (y 0)), (1, .ref (y 1)), (2, .ref (y 2)), (4, .ref (y 4)), (5, .ref (y 7)), (6, .ref (y 8)), (7, .ref (y 10)), (9, .ref (y 12)), (10, .ref q0), (11, .ref q1), (12, .ref q2), (13, .int (nI i9)), (14, .int (nI i72))] dL_ground_206 (Nat.le_of_ble_eq_true rfl) rfl ?_
                refine g_lload X 0 dL_ground_208 rfl ?_
                refine g_lconst X (v := 0) dL_ground_210 (by decide +kernel) ?_
                refine g_lj_le X (tgt := 220) (pc1 := 212) dL_ground_211 rfl dL_ground_212 (by decide) (fun h94 => ?_) (fun h94 => absurd hap1 h94)
                refine g_iload X 13 dL_ground_220 rfl ?_
                refine g_istore X [(18, .int (nI i9)), (16, .long ((S4 0 o) - (S4 0 i9))), (15, .int (nI o)), (0, .ref (y 0)), (1, .ref (y 1)), (2, .ref (y 2)), (4, .ref (y 4)), (5, .ref (y 7)), (6, .ref (y 8)), (7, .ref (y 10)), (9, .ref (y 12)), (10, .ref q0), (11, .ref q1), (12, .ref q2), (13, .int (nI i9)), (14, .int (nI i72))] dL_ground_222 (Nat.le_of_ble_eq_true rfl) rfl ?_
                refine g_lload X 1 dL_ground_224 rfl ?_
                refine g_lconst X (v := 0) dL_ground_226 (by decide +kernel) ?_
                refine g_lj_ne X (tgt := 235) (pc1 := 228) dL_ground_227 rfl dL_ground_228 (by decide) (fun h95 => ?_) (fun h95 => absurd h95 hap0)
                refine g_lload X 1 dL_ground_235 rfl ?_
                refine g_lconst X (v := 0) dL_ground_237 (by decide +kernel) ?_
                refine g_lj_le X (tgt := 247) (pc1 := 239) dL_ground_238 rfl dL_ground_239 (by decide) (fun h96 => ?_) (fun h96 => absurd hap1 h96)
                refine g_lload X 1 dL_ground_247 rfl ?_
                refine g_lneg X (v := S4 0 i9 - S4 0 o) dL_ground_249 (by rw [Int64.neg_sub]) ?_
                refine g_iload X 14 dL_ground_250 rfl ?_
                refine g_iload X 15 dL_ground_252 rfl ?_
                refine g_aload X 6 dL_ground_254 rfl ?_
                refine g_callS X (As := [.int (nI i9), .int (nI i72), .ref (y 4)]) (rest := [.long (S4 0 i9 - S4 0 o)]) (m_L_width l D cI cJ cZ y C N S4 Qk5 i9 i72 (by omega) (by omega) hx) kM_L_56 kT_yL_width kZ_RL kC_yL_width hV_L_width rfl rfl rfl ⟨Nat.le_of_ble_eq_true rfl, Nat.le_of_ble_eq_true rfl⟩ ⟨Nat.le_of_ble_eq_true rfl, Nat.le_of_ble_eq_true rfl⟩ (Nat.le_of_ble_eq_true rfl) dL_ground_256 rfl [0, 1, 2, 3, 4, 5, 6, 7, 8, 9, 10, 11, 12] rfl rfl (g_kk1 (w2 := wL y cI cJ C N S4 Qk5 ++ [(q0, .inl (cJ, 12, .inr (.inl (X74 0)))), (q1, .inl (cJ, 12, .inr (.inl (X74 1)))), (q2, .inl (cJ, 12, .inr (.inl (X74 2))))]) ⟨[0, 1, 2, 3, 4, 5, 6, 7, 8, 9, 10, 11, 12], [13, 14, 15], [3, 4, 5, 6, 7, 8, 9, 10, 11, 12, 13, 14, 15, 0, 1, 2], ([13, 14, 15].filterMap fun i => (wL y cI cJ C N S4 Qk5 ++ [(q0, .inl (cJ, 12, .inr (.inl (X74 0)))), (q1, .inl (cJ, 12, .inr (.inl (X74 1)))), (q2, .inl (cJ, 12, .inr (.inl (X74 2))))])[i]?), rfl, rfl, rfl, rfl, by decide, rfl, rfl⟩ ?_)
                refine g_i2l X (v := (wdL C i9 i72).toInt64) dL_ground_259 rfl ?_
                refine g_lmul X (v := (S4 0 i9 - S4 0 o) * ((wdL C i9 i72).toInt64)) dL_ground_260 rfl ?_
                refine g_ldc2 X kL_L_54 dL_ground_261 ?_
                refine g_ldiv X (v := ((S4 0 i9 - S4 0 o) * ((wdL C i9 i72).toInt64)) / (1000 : Int64)) dL_ground_264 (by decide +kernel) rfl ?_
                obtain ⟨x97, ex97⟩ : ∃ z : Int64, z = ((S4 0 i9 - S4 0 o) * ((wdL C i9 i72).toInt64)) / (1000 : Int64) := ⟨_, rfl⟩
                refine g_st (st' := [.long x97]) (by rw [ex97]; first | done | rfl) ?_
                obtain ⟨hf0, hf1, hf2⟩ := f_B (wd := wdL C i9 i72) hcx hcy
                rw [← ex97] at hf0 hf1 hf2
                have hs0 : sdL fwL C S4 i9 i72 = _ := (sd_y hx ho ho12).trans hf0
                have hs1 : sdL fhL C S4 i9 i72 = _ := (sd_y hx ho ho12).trans hf1
                have hs2 : sdL ftL C S4 i9 i72 = _ := (sd_y hx ho ho12).trans hf2
                refine g_lstore X [(19, .long x97), (18, .int (nI i9)), (16, .long ((S4 0 o) - (S4 0 i9))), (15, .int (nI o)), (0, .ref (y 0)), (1, .ref (y 1)), (2, .ref (y 2)), (4, .ref (y 4)), (5, .ref (y 7)), (6, .ref (y 8)), (7, .ref (y 10)), (9, .ref (y 12)), (10, .ref q0), (11, .ref q1), (12, .ref q2), (13, .int (nI i9)), (14, .int (nI i72))] dL_ground_265 (Nat.le_of_ble_eq_true rfl) rfl ?_
                refine g_lload X 2 dL_ground_267 rfl ?_
                refine g_lconst X (v := 0) dL_ground_269 (by decide +kernel) ?_
                refine g_lj_le X (tgt := 278) (pc1 := 271) dL_ground_270 rfl dL_ground_271 (by decide) (fun h98 => ?_) (fun h98 => absurd hap1 h98)
                refine g_ldc2 X kL_L_60 dL_ground_278 ?_
                refine g_lstore X [(21, .long (-1 : Int64)), (19, .long x97), (18, .int (nI i9)), (16, .long ((S4 0 o) - (S4 0 i9))), (15, .int (nI o)), (0, .ref (y 0)), (1, .ref (y 1)), (2, .ref (y 2)), (4, .ref (y 4)), (5, .ref (y 7)), (6, .ref (y 8)), (7, .ref (y 10)), (9, .ref (y 12)), (10, .ref q0), (11, .ref q1), (12, .ref q2), (13, .int (nI i9)), (14, .int (nI i72))] dL_ground_281 (Nat.le_of_ble_eq_true rfl) rfl ?_
                refine g_aload X 13 dL_ground_283 rfl ?_
                refine g_iload X 16 dL_ground_285 rfl ?_
                refine g_dup2_11 X dL_ground_287 rfl rfl ?_
                refine g_lald X 13 rfl (i9) rfl (by omega) (Nat.le_of_ble_eq_true rfl) (v := X74 0 i9) rfl dL_ground_288 ?_
                refine g_lload X 0 dL_ground_289 rfl ?_
                refine g_lload X 1 dL_ground_291 rfl ?_
                refine g_lmul X (v := -x97) dL_ground_293 (neg1_mul _) ?_
                refine g_ladd X (v := (X74 0 i9) + (-x97)) dL_ground_294 rfl ?_
                obtain ⟨X99, eX99⟩ : ∃ z : St, z = u2 X74 0 i9 ((X74 0 i9) + (-x97)) := ⟨_, rfl⟩
                refine g_last X (ws' := wL y cI cJ C N S4 Qk5 ++ [(q0, .inl (cJ, 12, .inr (.inl (X99 0)))), (q1, .inl (cJ, 12, .inr (.inl (X99 1)))), (q2, .inl (cJ, 12, .inr (.inl (X99 2))))]) 13 rfl (i9) rfl (by omega) (Nat.le_of_ble_eq_true rfl) dL_ground_295 (by rw [eX99]; first | done | (rfl)) ?_
                refine g_aload X 14 dL_ground_296 rfl ?_
                refine g_iload X 16 dL_ground_298 rfl ?_
                refine g_dup2_11 X dL_ground_300 rfl rfl ?_
                refine g_lald X 14 rfl (i9) rfl (by omega) (Nat.le_of_ble_eq_true rfl) (v := X99 1 i9) rfl dL_ground_301 ?_
                refine g_lload X 0 dL_ground_302 rfl ?_
                refine g_lload X 1 dL_ground_304 rfl ?_
                refine g_lmul X (v := -x97) dL_ground_306 (neg1_mul _) ?_
                refine g_iload X 2 dL_ground_307 rfl ?_
                refine g_aload_n X 5 dL_ground_309 rfl rfl ?_
                refine g_aload_n X 6 dL_ground_310 rfl rfl ?_
                refine g_callS X (As := [.int (nI i9), .ref (y 0), .ref (y 1)]) (rest := [.long (-x97), .long (X99 1 i9), .int (nI i9), .ref q1]) (m_L_hot l D cI cJ cZ y C N S4 Qk5 i9 (by omega) (hWK.ne (by omega))) kM_L_18 kT_yL_hot kZ_RL kC_yL_hot hV_L_hot rfl rfl rfl ⟨Nat.le_of_ble_eq_true rfl, Nat.le_of_ble_eq_true rfl⟩ ⟨Nat.le_of_ble_eq_true rfl, Nat.le_of_ble_eq_true rfl⟩ (Nat.le_of_ble_eq_true rfl) dL_ground_311 rfl [0, 1, 2, 3, 4, 5, 6, 7, 8, 9, 10, 11, 12] rfl rfl (g_kk1 (w2 := wL y cI cJ C N S4 Qk5 ++ [(q0, .inl (cJ, 12, .inr (.inl (X99 0)))), (q1, .inl (cJ, 12, .inr (.inl (X99 1)))), (q2, .inl (cJ, 12, .inr (.inl (X99 2))))]) ⟨[0, 1, 2, 3, 4, 5, 6, 7, 8, 9, 10, 11, 12], [13, 14, 15], [3, 4, 5, 6, 7, 8, 9, 10, 11, 12, 13, 14, 15, 0, 1, 2], ([13, 14, 15].filterMap fun i => (wL y cI cJ C N S4 Qk5 ++ [(q0, .inl (cJ, 12, .inr (.inl (X99 0)))), (q1, .inl (cJ, 12, .inr (.inl (X99 1)))), (q2, .inl (cJ, 12, .inr (.inl (X99 2))))])[i]?), rfl, rfl, rfl, rfl, by decide, rfl, rfl⟩ ?_)
                refine g_lmul X (v := -(x97 * deg S4 i9)) dL_ground_314 (by rw [Int64.neg_mul]) ?_
                refine g_ladd X (v := (X99 1 i9) + (-(x97 * deg S4 i9))) dL_ground_315 rfl ?_
                obtain ⟨X100, eX100⟩ : ∃ z : St, z = u2 X99 1 i9 ((X99 1 i9) + (-(x97 * deg S4 i9))) := ⟨_, rfl⟩
                refine g_last X (ws' := wL y cI cJ C N S4 Qk5 ++ [(q0, .inl (cJ, 12, .inr (.inl (X100 0)))), (q1, .inl (cJ, 12, .inr (.inl (X100 1)))), (q2, .inl (cJ, 12, .inr (.inl (X100 2))))]) 14 rfl (i9) rfl (by omega) (Nat.le_of_ble_eq_true rfl) dL_ground_316 (by rw [eX100]; first | done | (rfl)) ?_
                refine g_aload X 15 dL_ground_317 rfl ?_
                refine g_iload X 16 dL_ground_319 rfl ?_
                refine g_dup2_11 X dL_ground_321 rfl rfl ?_
                refine g_lald X 15 rfl (i9) rfl (by omega) (Nat.le_of_ble_eq_true rfl) (v := X100 2 i9) rfl dL_ground_322 ?_
                refine g_lload X 1 dL_ground_323 rfl ?_
                refine g_lconst X (v := 0) dL_ground_325 (by decide +kernel) ?_
                have J103 : ∀ (v102 : Int64), v102 = (if ¬ x97 = (0 : Int64) then -(((S4 2 i9) * x97) / (S4 0 i9)) else (0 : Int64)) → g_G p l e rm_L_ground s m args below meth c D A 23 3 36 Q (wL y cI cJ C N S4 Qk5 ++ [(q0, .inl (cJ, 12, .inr (.inl (X100 0)))), (q1, .inl (cJ, 12, .inr (.inl (X100 1)))), (q2, .inl (cJ, 12, .inr (.inl (X100 2))))]) [(0, .ref (y 0)), (1, .ref (y 1)), (2, .ref (y 2)), (4, .ref (y 4)), (5, .ref (y 7)), (6, .ref (y 8)), (7, .ref (y 10)), (9, .ref (y 12)), (10, .ref q0), (11, .ref q1), (12, .ref q2), (13, .int (nI i9)), (14, .int (nI i72))] 349 [.long v102, .long (X100 2 i9), .int (nI i9), .ref q2] := by
                  intro v102 ev102
                  replace ev102 := ev102.trans (show _ = -(S4 2 i9 * x97 / S4 0 i9) from ft_n)
                  refine g_ladd X (v := (X100 2 i9) + v102) dL_ground_349 rfl ?_
                  obtain ⟨X104, eX104⟩ : ∃ z : St, z = u2 X100 2 i9 ((X100 2 i9) + v102) := ⟨_, rfl⟩
                  refine g_last X (ws' := wL y cI cJ C N S4 Qk5 ++ [(q0, .inl (cJ, 12, .inr (.inl (X104 0)))), (q1, .inl (cJ, 12, .inr (.inl (X104 1)))), (q2, .inl (cJ, 12, .inr (.inl (X104 2))))]) 15 rfl (i9) rfl (by omega) (Nat.le_of_ble_eq_true rfl) dL_ground_350 (by rw [eX104]; first | done | (rfl)) ?_
                  refine g_iinc X [(14, .int (nI (i72 + 1))), (0, .ref (y 0)), (1, .ref (y 1)), (2, .ref (y 2)), (4, .ref (y 4)), (5, .ref (y 7)), (6, .ref (y 8)), (7, .ref (y 10)), (9, .ref (y 12)), (10, .ref q0), (11, .ref q1), (12, .ref q2), (13, .int (nI i9))] (q := 12) (v := nI (i72 + 1)) dL_ground_351 rfl ((congrArg (fun z => nI (i72) + z) (show Int32.ofInt 1 = nI 1 by decide +kernel)).trans ((nI_add _ _).trans (congrArg nI (by omega)))) (Nat.le_of_ble_eq_true rfl) rfl ?_
                  refine g_goto X (tgt := 173) dL_ground_354 (by decide) ?_
                  refine g_lv _ [1, 2, 3, 4, 5, 6, 7, 8, 9, 10, 11, 12, 0] rfl ?_
                  exact ihL71 (i72 + 1) _ (by omega) (by show _ = sdX C S4 i9 i72 (itr (sdX C S4 i9) _ i72); rw [← eX74]; unfold sdX; rw [hs0, hs1, hs2, eX104, eX100, eX99]; (try rw [ev102]); rfl)
                refine g_lj_ne X (tgt := 334) (pc1 := 327) dL_ground_326 rfl dL_ground_327 (by decide) (fun h101 => ?_) (fun h101 => ?_)
                · --
                  refine g_lload X 0 dL_ground_334 rfl ?_
                  refine g_aload_n X 7 dL_ground_336 rfl rfl ?_
                  refine g_iload X 2 dL_ground_337 rfl ?_
                  refine g_lald X 2 rfl (i9) rfl (by omega) (Nat.le_of_ble_eq_true rfl) (v := S4 2 i9) rfl dL_ground_339 ?_
                  refine g_lload X 1 dL_ground_340 rfl ?_
                  refine g_lmul X (v := (S4 2 i9) * x97) dL_ground_342 rfl ?_
                  refine g_aload_n X 5 dL_ground_343 rfl rfl ?_
                  refine g_iload X 2 dL_ground_344 rfl ?_
                  refine g_lald X 0 rfl (i9) rfl (by omega) (Nat.le_of_ble_eq_true rfl) (v := S4 0 i9) rfl dL_ground_346 ?_
                  refine g_ldiv X (v := ((S4 2 i9) * x97) / (S4 0 i9)) dL_ground_347 hnz rfl ?_
                  refine g_lmul X (v := -(((S4 2 i9) * x97) / (S4 0 i9))) dL_ground_348 (neg1_mul _) ?_
                  refine g_lv _ [5, 6, 7, 8, 9, 10, 11, 12, 13, 14, 15, 16, 17] rfl ?_
                  exact J103 _ (by rw [if_pos (c := ¬ x97 = (0 : Int64)) h101])
                · --
                  refine g_lconst X (v := 0) dL_ground_330 (by decide +kernel) ?_
                  refine g_goto X (tgt := 349) dL_ground_331 (by decide) ?_
                  refine g_lv _ [5, 6, 7, 8, 9, 10, 11, 12, 13, 14, 15, 16, 17] rfl ?_
                  exact J103 _ (by rw [if_neg (c := ¬ x97 = (0 : Int64)) (fun z => z h101)])
            · --
              refine g_aload_n X 1 dL_ground_197 rfl rfl ?_
              refine g_iload X 0 dL_ground_198 rfl ?_
              refine g_lald X 0 rfl (o) rfl (by omega) (Nat.le_of_ble_eq_true rfl) (v := S4 0 o) rfl dL_ground_200 ?_
              refine g_aload_n X 1 dL_ground_201 rfl rfl ?_
              refine g_iload X 12 dL_ground_202 rfl ?_
              refine g_lald X 0 rfl (i9) rfl (by omega) (Nat.le_of_ble_eq_true rfl) (v := S4 0 i9) rfl dL_ground_204 ?_
              refine g_lsub X (v := (S4 0 o) - (S4 0 i9)) dL_ground_205 rfl ?_
              obtain ⟨hap1, hap0, hnz⟩ := ap_p ⟨(hWS _ ho12).1, (hWS _ ho12).2⟩ ⟨(hWS _ hlti9).1, (hWS _ hlti9).2⟩ hcx
              refine g_lstore X [(16, .long ((S4 0 o) - (S4 0 i9))), (15, .int (nI o)), (0, .ref (y 0)), (1, .ref (y 1)), (2, .ref (y 2)), (4, .ref (y 4)), (5, .ref (y 7)), (6, .ref (y 8)), (7, .ref (y 10)), (9, .ref (y 12)), (10, .ref q0), (11, .ref q1), (12, .ref q2), (13, .int (nI i9)), (14, .int (nI i72))] dL_ground_206 (Nat.le_of_ble_eq_true rfl) rfl ?_
              refine g_lload X 0 dL_ground_208 rfl ?_
              refine g_lconst X (v := 0) dL_ground_210 (by decide +kernel) ?_
              refine g_lj_le X (tgt := 220) (pc1 := 212) dL_ground_211 rfl dL_ground_212 (by decide) (fun h105 => absurd h105 hap1) (fun h105 => ?_)
              refine g_iload X 1 dL_ground_215 rfl ?_
              refine g_goto X (tgt := 222) dL_ground_217 (by decide) ?_
              refine g_istore X [(18, .int (nI o)), (16, .long ((S4 0 o) - (S4 0 i9))), (15, .int (nI o)), (0, .ref (y 0)), (1, .ref (y 1)), (2, .ref (y 2)), (4, .ref (y 4)), (5, .ref (y 7)), (6, .ref (y 8)), (7, .ref (y 10)), (9, .ref (y 12)), (10, .ref q0), (11, .ref q1), (12, .ref q2), (13, .int (nI i9)), (14, .int (nI i72))] dL_ground_222 (Nat.le_of_ble_eq_true rfl) rfl ?_
              refine g_lload X 1 dL_ground_224 rfl ?_
              refine g_lconst X (v := 0) dL_ground_226 (by decide +kernel) ?_
              refine g_lj_ne X (tgt := 235) (pc1 := 228) dL_ground_227 rfl dL_ground_228 (by decide) (fun h106 => ?_) (fun h106 => absurd h106 hap0)
              refine g_lload X 1 dL_ground_235 rfl ?_
              refine g_lconst X (v := 0) dL_ground_237 (by decide +kernel) ?_
              refine g_lj_le X (tgt := 247) (pc1 := 239) dL_ground_238 rfl dL_ground_239 (by decide) (fun h107 => absurd h107 hap1) (fun h107 => ?_)
              refine g_lload X 1 dL_ground_242 rfl ?_
              refine g_goto X (tgt := 250) dL_ground_244 (by decide) ?_
              refine g_iload X 14 dL_ground_250 rfl ?_
              refine g_iload X 15 dL_ground_252 rfl ?_
              refine g_aload X 6 dL_ground_254 rfl ?_
              refine g_callS X (As := [.int (nI i9), .int (nI i72), .ref (y 4)]) (rest := [.long ((S4 0 o) - (S4 0 i9))]) (m_L_width l D cI cJ cZ y C N S4 Qk5 i9 i72 (by omega) (by omega) hx) kM_L_56 kT_yL_width kZ_RL kC_yL_width hV_L_width rfl rfl rfl ⟨Nat.le_of_ble_eq_true rfl, Nat.le_of_ble_eq_true rfl⟩ ⟨Nat.le_of_ble_eq_true rfl, Nat.le_of_ble_eq_true rfl⟩ (Nat.le_of_ble_eq_true rfl) dL_ground_256 rfl [0, 1, 2, 3, 4, 5, 6, 7, 8, 9, 10, 11, 12] rfl rfl (g_kk1 (w2 := wL y cI cJ C N S4 Qk5 ++ [(q0, .inl (cJ, 12, .inr (.inl (X74 0)))), (q1, .inl (cJ, 12, .inr (.inl (X74 1)))), (q2, .inl (cJ, 12, .inr (.inl (X74 2))))]) ⟨[0, 1, 2, 3, 4, 5, 6, 7, 8, 9, 10, 11, 12], [13, 14, 15], [3, 4, 5, 6, 7, 8, 9, 10, 11, 12, 13, 14, 15, 0, 1, 2], ([13, 14, 15].filterMap fun i => (wL y cI cJ C N S4 Qk5 ++ [(q0, .inl (cJ, 12, .inr (.inl (X74 0)))), (q1, .inl (cJ, 12, .inr (.inl (X74 1)))), (q2, .inl (cJ, 12, .inr (.inl (X74 2))))])[i]?), rfl, rfl, rfl, rfl, by decide, rfl, rfl⟩ ?_)
              refine g_i2l X (v := (wdL C i9 i72).toInt64) dL_ground_259 rfl ?_
              refine g_lmul X (v := ((S4 0 o) - (S4 0 i9)) * ((wdL C i9 i72).toInt64)) dL_ground_260 rfl ?_
              refine g_ldc2 X kL_L_54 dL_ground_261 ?_
              refine g_ldiv X (v := (((S4 0 o) - (S4 0 i9)) * ((wdL C i9 i72).toInt64)) / (1000 : Int64)) dL_ground_264 (by decide +kernel) rfl ?_
              obtain ⟨x108, ex108⟩ : ∃ z : Int64, z = (((S4 0 o) - (S4 0 i9)) * ((wdL C i9 i72).toInt64)) / (1000 : Int64) := ⟨_, rfl⟩
              refine g_st (st' := [.long x108]) (by rw [ex108]; first | done | rfl) ?_
              obtain ⟨hf0, hf1, hf2⟩ := f_C (wd := wdL C i9 i72) hcx
              rw [← ex108] at hf0 hf1 hf2
              have hs0 : sdL fwL C S4 i9 i72 = _ := (sd_y hx ho ho12).trans hf0
              have hs1 : sdL fhL C S4 i9 i72 = _ := (sd_y hx ho ho12).trans hf1
              have hs2 : sdL ftL C S4 i9 i72 = _ := (sd_y hx ho ho12).trans hf2
              refine g_lstore X [(19, .long x108), (18, .int (nI o)), (16, .long ((S4 0 o) - (S4 0 i9))), (15, .int (nI o)), (0, .ref (y 0)), (1, .ref (y 1)), (2, .ref (y 2)), (4, .ref (y 4)), (5, .ref (y 7)), (6, .ref (y 8)), (7, .ref (y 10)), (9, .ref (y 12)), (10, .ref q0), (11, .ref q1), (12, .ref q2), (13, .int (nI i9)), (14, .int (nI i72))] dL_ground_265 (Nat.le_of_ble_eq_true rfl) rfl ?_
              refine g_lload X 2 dL_ground_267 rfl ?_
              refine g_lconst X (v := 0) dL_ground_269 (by decide +kernel) ?_
              refine g_lj_le X (tgt := 278) (pc1 := 271) dL_ground_270 rfl dL_ground_271 (by decide) (fun h109 => absurd h109 hap1) (fun h109 => ?_)
              refine g_lconst X (v := 1) dL_ground_274 (by decide +kernel) ?_
              refine g_goto X (tgt := 281) dL_ground_275 (by decide) ?_
              refine g_lstore X [(21, .long (1 : Int64)), (19, .long x108), (18, .int (nI o)), (16, .long ((S4 0 o) - (S4 0 i9))), (15, .int (nI o)), (0, .ref (y 0)), (1, .ref (y 1)), (2, .ref (y 2)), (4, .ref (y 4)), (5, .ref (y 7)), (6, .ref (y 8)), (7, .ref (y 10)), (9, .ref (y 12)), (10, .ref q0), (11, .ref q1), (12, .ref q2), (13, .int (nI i9)), (14, .int (nI i72))] dL_ground_281 (Nat.le_of_ble_eq_true rfl) rfl ?_
              refine g_aload X 13 dL_ground_283 rfl ?_
              refine g_iload X 16 dL_ground_285 rfl ?_
              refine g_dup2_11 X dL_ground_287 rfl rfl ?_
              refine g_lald X 13 rfl (i9) rfl (by omega) (Nat.le_of_ble_eq_true rfl) (v := X74 0 i9) rfl dL_ground_288 ?_
              refine g_lload X 0 dL_ground_289 rfl ?_
              refine g_lload X 1 dL_ground_291 rfl ?_
              refine g_lmul X (v := x108) dL_ground_293 (by rw [Int64.one_mul]) ?_
              refine g_ladd X (v := (X74 0 i9) + x108) dL_ground_294 rfl ?_
              obtain ⟨X110, eX110⟩ : ∃ z : St, z = u2 X74 0 i9 ((X74 0 i9) + x108) := ⟨_, rfl⟩
              refine g_last X (ws' := wL y cI cJ C N S4 Qk5 ++ [(q0, .inl (cJ, 12, .inr (.inl (X110 0)))), (q1, .inl (cJ, 12, .inr (.inl (X110 1)))), (q2, .inl (cJ, 12, .inr (.inl (X110 2))))]) 13 rfl (i9) rfl (by omega) (Nat.le_of_ble_eq_true rfl) dL_ground_295 (by rw [eX110]; first | done | (rfl)) ?_
              refine g_aload X 14 dL_ground_296 rfl ?_
              refine g_iload X 16 dL_ground_298 rfl ?_
              refine g_dup2_11 X dL_ground_300 rfl rfl ?_
              refine g_lald X 14 rfl (i9) rfl (by omega) (Nat.le_of_ble_eq_true rfl) (v := X110 1 i9) rfl dL_ground_301 ?_
              refine g_lload X 0 dL_ground_302 rfl ?_
              refine g_lload X 1 dL_ground_304 rfl ?_
              refine g_lmul X (v := x108) dL_ground_306 (by rw [Int64.one_mul]) ?_
              refine g_iload X 2 dL_ground_307 rfl ?_
              refine g_aload_n X 5 dL_ground_309 rfl rfl ?_
              refine g_aload_n X 6 dL_ground_310 rfl rfl ?_
              refine g_callS X (As := [.int (nI o), .ref (y 0), .ref (y 1)]) (rest := [.long x108, .long (X110 1 i9), .int (nI i9), .ref q1]) (m_L_hot l D cI cJ cZ y C N S4 Qk5 o (by omega) (hWK.ne (by omega))) kM_L_18 kT_yL_hot kZ_RL kC_yL_hot hV_L_hot rfl rfl rfl ⟨Nat.le_of_ble_eq_true rfl, Nat.le_of_ble_eq_true rfl⟩ ⟨Nat.le_of_ble_eq_true rfl, Nat.le_of_ble_eq_true rfl⟩ (Nat.le_of_ble_eq_true rfl) dL_ground_311 rfl [0, 1, 2, 3, 4, 5, 6, 7, 8, 9, 10, 11, 12] rfl rfl (g_kk1 (w2 := wL y cI cJ C N S4 Qk5 ++ [(q0, .inl (cJ, 12, .inr (.inl (X110 0)))), (q1, .inl (cJ, 12, .inr (.inl (X110 1)))), (q2, .inl (cJ, 12, .inr (.inl (X110 2))))]) ⟨[0, 1, 2, 3, 4, 5, 6, 7, 8, 9, 10, 11, 12], [13, 14, 15], [3, 4, 5, 6, 7, 8, 9, 10, 11, 12, 13, 14, 15, 0, 1, 2], ([13, 14, 15].filterMap fun i => (wL y cI cJ C N S4 Qk5 ++ [(q0, .inl (cJ, 12, .inr (.inl (X110 0)))), (q1, .inl (cJ, 12, .inr (.inl (X110 1)))), (q2, .inl (cJ, 12, .inr (.inl (X110 2))))])[i]?), rfl, rfl, rfl, rfl, by decide, rfl, rfl⟩ ?_)
              refine g_lmul X (v := x108 * (deg S4 o)) dL_ground_314 rfl ?_
              refine g_ladd X (v := (X110 1 i9) + (x108 * (deg S4 o))) dL_ground_315 rfl ?_
              obtain ⟨X111, eX111⟩ : ∃ z : St, z = u2 X110 1 i9 ((X110 1 i9) + (x108 * (deg S4 o))) := ⟨_, rfl⟩
              refine g_last X (ws' := wL y cI cJ C N S4 Qk5 ++ [(q0, .inl (cJ, 12, .inr (.inl (X111 0)))), (q1, .inl (cJ, 12, .inr (.inl (X111 1)))), (q2, .inl (cJ, 12, .inr (.inl (X111 2))))]) 14 rfl (i9) rfl (by omega) (Nat.le_of_ble_eq_true rfl) dL_ground_316 (by rw [eX111]; first | done | (rfl)) ?_
              refine g_aload X 15 dL_ground_317 rfl ?_
              refine g_iload X 16 dL_ground_319 rfl ?_
              refine g_dup2_11 X dL_ground_321 rfl rfl ?_
              refine g_lald X 15 rfl (i9) rfl (by omega) (Nat.le_of_ble_eq_true rfl) (v := X111 2 i9) rfl dL_ground_322 ?_
              refine g_lload X 1 dL_ground_323 rfl ?_
              refine g_lconst X (v := 0) dL_ground_325 (by decide +kernel) ?_
              have J114 : ∀ (v113 : Int64), v113 = (if ¬ x108 = (0 : Int64) then ((S4 2 o) * x108) / (S4 0 o) else (0 : Int64)) → g_G p l e rm_L_ground s m args below meth c D A 23 3 36 Q (wL y cI cJ C N S4 Qk5 ++ [(q0, .inl (cJ, 12, .inr (.inl (X111 0)))), (q1, .inl (cJ, 12, .inr (.inl (X111 1)))), (q2, .inl (cJ, 12, .inr (.inl (X111 2))))]) [(0, .ref (y 0)), (1, .ref (y 1)), (2, .ref (y 2)), (4, .ref (y 4)), (5, .ref (y 7)), (6, .ref (y 8)), (7, .ref (y 10)), (9, .ref (y 12)), (10, .ref q0), (11, .ref q1), (12, .ref q2), (13, .int (nI i9)), (14, .int (nI i72))] 349 [.long v113, .long (X111 2 i9), .int (nI i9), .ref q2] := by
                intro v113 ev113
                replace ev113 := ev113.trans (show _ = S4 2 o * x108 / S4 0 o from ft_p)
                refine g_ladd X (v := (X111 2 i9) + v113) dL_ground_349 rfl ?_
                obtain ⟨X115, eX115⟩ : ∃ z : St, z = u2 X111 2 i9 ((X111 2 i9) + v113) := ⟨_, rfl⟩
                refine g_last X (ws' := wL y cI cJ C N S4 Qk5 ++ [(q0, .inl (cJ, 12, .inr (.inl (X115 0)))), (q1, .inl (cJ, 12, .inr (.inl (X115 1)))), (q2, .inl (cJ, 12, .inr (.inl (X115 2))))]) 15 rfl (i9) rfl (by omega) (Nat.le_of_ble_eq_true rfl) dL_ground_350 (by rw [eX115]; first | done | (rfl)) ?_
                refine g_iinc X [(14, .int (nI (i72 + 1))), (0, .ref (y 0)), (1, .ref (y 1)), (2, .ref (y 2)), (4, .ref (y 4)), (5, .ref (y 7)), (6, .ref (y 8)), (7, .ref (y 10)), (9, .ref (y 12)), (10, .ref q0), (11, .ref q1), (12, .ref q2), (13, .int (nI i9))] (q := 12) (v := nI (i72 + 1)) dL_ground_351 rfl ((congrArg (fun z => nI (i72) + z) (show Int32.ofInt 1 = nI 1 by decide +kernel)).trans ((nI_add _ _).trans (congrArg nI (by omega)))) (Nat.le_of_ble_eq_true rfl) rfl ?_
                refine g_goto X (tgt := 173) dL_ground_354 (by decide) ?_
                refine g_lv _ [1, 2, 3, 4, 5, 6, 7, 8, 9, 10, 11, 12, 0] rfl ?_
                exact ihL71 (i72 + 1) _ (by omega) (by show _ = sdX C S4 i9 i72 (itr (sdX C S4 i9) _ i72); rw [← eX74]; unfold sdX; rw [hs0, hs1, hs2, eX115, eX111, eX110]; (try rw [ev113]); rfl)
              refine g_lj_ne X (tgt := 334) (pc1 := 327) dL_ground_326 rfl dL_ground_327 (by decide) (fun h112 => ?_) (fun h112 => ?_)
              · --
                refine g_lload X 0 dL_ground_334 rfl ?_
                refine g_aload_n X 7 dL_ground_336 rfl rfl ?_
                refine g_iload X 2 dL_ground_337 rfl ?_
                refine g_lald X 2 rfl (o) rfl (by omega) (Nat.le_of_ble_eq_true rfl) (v := S4 2 o) rfl dL_ground_339 ?_
                refine g_lload X 1 dL_ground_340 rfl ?_
                refine g_lmul X (v := (S4 2 o) * x108) dL_ground_342 rfl ?_
                refine g_aload_n X 5 dL_ground_343 rfl rfl ?_
                refine g_iload X 2 dL_ground_344 rfl ?_
                refine g_lald X 0 rfl (o) rfl (by omega) (Nat.le_of_ble_eq_true rfl) (v := S4 0 o) rfl dL_ground_346 ?_
                refine g_ldiv X (v := ((S4 2 o) * x108) / (S4 0 o)) dL_ground_347 hnz rfl ?_
                refine g_lmul X (v := ((S4 2 o) * x108) / (S4 0 o)) dL_ground_348 (by rw [Int64.one_mul]) ?_
                refine g_lv _ [5, 6, 7, 8, 9, 10, 11, 12, 13, 14, 15, 16, 17] rfl ?_
                exact J114 _ (by rw [if_pos (c := ¬ x108 = (0 : Int64)) h112])
              · --
                refine g_lconst X (v := 0) dL_ground_330 (by decide +kernel) ?_
                refine g_goto X (tgt := 349) dL_ground_331 (by decide) ?_
                refine g_lv _ [5, 6, 7, 8, 9, 10, 11, 12, 13, 14, 15, 16, 17] rfl ?_
                exact J114 _ (by rw [if_neg (c := ¬ x108 = (0 : Int64)) (fun z => z h112)])
      refine g_lv _ [1, 2, 3, 4, 5, 6, 7, 8, 9, 10, 11, 12, 0] rfl ?_
      exact L71 (4) 0 _ (by omega) (by first | rfl | ((try rw [eX70]); (try rw [eX69]); (try rw [eX68]); (try rw [eX11]); (try rw [eQk5]); (try rw [eS4]); first | done | rfl))
  refine g_lv _ [4, 5, 6, 8, 9, 10, 11, 13, 3, 2, 1, 0] rfl ?_
  exact L8 (12) 0 _ (by omega) (by first | rfl | ((try rw [eQk5]); (try rw [eS4]); first | done | rfl))
