set_option maxRecDepth 100000 in
set_option maxHeartbeats 4000000 in
theorem n_tells_4 (l : Launch) (D : va_G) (cI cJ cZ : ClassId) (x y : Nat → Nat) (C : Cf) (N : Nat → Nat) (S : St) (Qk : Nat → Int64) (Z : St) (jC : Cf) (jN : Nat → Nat) (jS : St) (jQ : Nat → Int64) (jZ : St) (zv : Int32) (b : Nat) (hb : b < 12) (mo : Nat) (hm : mo ≤ 600) (hL : LV C N S mo) {p : Program} {e : Env} {s : State} {m : MethodId} {args : Array Value} {below : List Frame} {meth : Method} {c : Code} {A : Nat → Prop} (X : g_Cx p s m args c D A 16 cL_tells RL cI cJ cZ) (hr : meth.sig.returnType = (some .boolean)) (hlk : meth.locks = false) {Q : State → Prop} (hQ : MQ below (g_Post D A (TP x y cI cJ cZ N Qk Z jC jN jS jQ jZ mo)) args s 0 0 A = Q) : g_G p l e rm_L_tells s m args below meth c D A 16 0 0 Q (wX2 x cI cJ cZ C N S Qk Z jC jN jS jQ jZ ++ wL y cI cJ C N S Qk) [(0, .ref (x 0)), (1, .int (nI 4)), (2, .int zv), (3, .ref (y 0)), (4, .ref (y 1)), (5, .ref (y 2)), (6, .ref (y 4)), (7, .ref (y 5)), (8, .ref (y 7)), (9, .ref (y 9)), (10, .ref (y 12)), (11, .int (nI b))] 8 [] := by
  have hC := hL.c
  have hW := hL.wok hm
  have hn0 := hL.2.2.2.1
  have hn1 := hL.2.2.2.2.1
  have hn2 := hL.2.2.2.2.2
  refine g_iload_n X 1 dL_tells_8 rfl rfl ?_
  refine g_iN_ne X (a := 4) (tgt := 121) (by omega) dL_tells_9 (by decide) (fun h1 => ?_) (fun h1 => absurd h1 (by decide))
  refine g_iload_n X 1 dL_tells_121 rfl rfl ?_
  refine g_iconst X (v := nI 1) dL_tells_122 (by decide +kernel) ?_
  refine g_icN_ne X (a := 4) (b := 1) (tgt := 235) (by omega) (by omega) dL_tells_123 (by decide) (fun h2 => ?_) (fun h2 => absurd h2 (by decide))
  refine g_iload_n X 1 dL_tells_235 rfl rfl ?_
  refine g_iconst X (v := nI 2) dL_tells_236 (by decide +kernel) ?_
  refine g_icN_ne X (a := 4) (b := 2) (tgt := 278) (by omega) (by omega) dL_tells_237 (by decide) (fun h3 => ?_) (fun h3 => absurd h3 (by decide))
  refine g_iload_n X 1 dL_tells_278 rfl rfl ?_
  refine g_iconst X (v := nI 3) dL_tells_279 (by decide +kernel) ?_
  refine g_icN_ne X (a := 4) (b := 3) (tgt := 405) (by omega) (by omega) dL_tells_280 (by decide) (fun h4 => ?_) (fun h4 => absurd h4 (by decide))
  refine g_iload_n X 1 dL_tells_405 rfl rfl ?_
  refine g_iconst X (v := nI 4) dL_tells_406 (by decide +kernel) ?_
  refine g_icN_ne X (a := 4) (b := 4) (tgt := 533) (by omega) (by omega) dL_tells_407 (by decide) (fun h5 => absurd rfl h5) (fun h5 => ?_)
  refine g_aload X 10 dL_tells_410 rfl ?_
  refine g_iconst X (v := nI 1) dL_tells_412 (by decide +kernel) ?_
  refine g_iald X 83 rfl (1) rfl (by omega) (Nat.le_of_ble_eq_true rfl) (v := nI (N 0)) rfl dL_tells_413 ?_
  refine g_iN_ne X (a := (N 0)) (tgt := 419) (by omega) dL_tells_414 (by decide) (fun h6 => ?_) (fun h6 => ?_)
  · --
    refine g_iload_n X 2 dL_tells_419 rfl rfl ?_
    refine g_iconst X (v := nI 3) dL_tells_420 (by decide +kernel) ?_
    refine g_ishr X (v := zv >>> ((nI 3) &&& 31)) dL_tells_421 rfl ?_
    refine g_aload X 10 dL_tells_422 rfl ?_
    refine g_iconst X (v := nI 1) dL_tells_424 (by decide +kernel) ?_
    refine g_iald X 83 rfl (1) rfl (by omega) (Nat.le_of_ble_eq_true rfl) (v := nI (N 0)) rfl dL_tells_425 ?_
    have fl7 := lwN_lt (zv >>> ((nI 3) &&& 31)) (n := N 0) (by omega)
    refine g_callS X (As := [.int (zv >>> ((nI 3) &&& 31)), .int (nI (N 0))]) (rest := []) (m_L_low l D cI cJ cZ (zv >>> ((nI 3) &&& 31)) (N 0) (by omega) (by omega)) kM_L_114 kT_yL_low kZ_RL kC_yL_low hV_L_low rfl rfl rfl ⟨Nat.le_of_ble_eq_true rfl, Nat.le_of_ble_eq_true rfl⟩ ⟨Nat.le_of_ble_eq_true rfl, Nat.le_of_ble_eq_true rfl⟩ (Nat.le_of_ble_eq_true rfl) dL_tells_426 rfl [] rfl (by decide +kernel) (g_kk1 (w2 := wX2 x cI cJ cZ C N S Qk Z jC jN jS jQ jZ ++ wL y cI cJ C N S Qk) em0 ?_)
    obtain ⟨k9, ek9⟩ : ∃ z : Nat, z = lwN (zv >>> ((nI 3) &&& 31)) (N 0) := ⟨_, rfl⟩
    have hk9 : k9 < N 0 := by rw [ek9]; exact lwN_lt _ (by omega)
    refine g_st (st' := [.int (nI k9)]) (by rw [ek9]; first | done | rfl) ?_
    refine g_istore X [(12, .int (nI k9)), (0, .ref (x 0)), (1, .int (nI 4)), (2, .int zv), (3, .ref (y 0)), (4, .ref (y 1)), (5, .ref (y 2)), (6, .ref (y 4)), (7, .ref (y 5)), (8, .ref (y 7)), (9, .ref (y 9)), (10, .ref (y 12)), (11, .int (nI b))] dL_tells_429 (Nat.le_of_ble_eq_true rfl) rfl ?_
    have fl1 := lwN_lt (zv >>> (nI 6 &&& 31)) (n := 11) (by decide)
    have fl2 := lwN_lt (zv >>> (nI 6 &&& 31)) (n := 1001) (by decide)
    have hk3 : C 3 k9 = 0 ∨ C 3 k9 = nI 1 := hL.1.2.2.2.1 k9 hk9
    refine g_aload X 8 dL_tells_431 rfl ?_
    refine g_bipush X (v := nI 7) dL_tells_433 (by decide +kernel) ?_
    refine g_iload X 0 dL_tells_435 rfl ?_
    refine g_imul X (v := nI (7 * k9)) dL_tells_437 (pk_mul _ _) ?_
    refine g_iconst X (v := nI 2) dL_tells_438 (by decide +kernel) ?_
    refine g_iadd X (v := nI (7 * k9 + 2)) dL_tells_439 ((nI_add _ _).trans (congrArg nI (by omega))) ?_
    refine g_iald X 76 rfl (7 * k9 + 2) rfl (by omega) (Nat.le_of_ble_eq_true rfl) (v := C 4 k9) (lrE_2 C N S k9) dL_tells_440 ?_
    refine g_istore X [(13, .int (C 4 k9)), (12, .int (nI k9)), (0, .ref (x 0)), (1, .int (nI 4)), (2, .int zv), (3, .ref (y 0)), (4, .ref (y 1)), (5, .ref (y 2)), (6, .ref (y 4)), (7, .ref (y 5)), (8, .ref (y 7)), (9, .ref (y 9)), (10, .ref (y 12)), (11, .int (nI b))] dL_tells_441 (Nat.le_of_ble_eq_true rfl) rfl ?_
    refine g_aload X 9 dL_tells_443 rfl ?_
    refine g_bipush X (v := nI 7) dL_tells_445 (by decide +kernel) ?_
    refine g_iload X 1 dL_tells_447 rfl ?_
    refine g_imul X (v := nI (7 * k9)) dL_tells_449 (pk_mul _ _) ?_
    refine g_iconst X (v := nI 2) dL_tells_450 (by decide +kernel) ?_
    refine g_iadd X (v := nI (7 * k9 + 2)) dL_tells_451 ((nI_add _ _).trans (congrArg nI (by omega))) ?_
    refine g_aload X 9 dL_tells_452 rfl ?_
    refine g_bipush X (v := nI 7) dL_tells_454 (by decide +kernel) ?_
    refine g_iload X 1 dL_tells_456 rfl ?_
    refine g_imul X (v := nI (7 * k9)) dL_tells_458 (pk_mul _ _) ?_
    refine g_iconst X (v := nI 1) dL_tells_459 (by decide +kernel) ?_
    refine g_iadd X (v := nI (7 * k9 + 1)) dL_tells_460 ((nI_add _ _).trans (congrArg nI (by omega))) ?_
    refine g_iald X 76 rfl (7 * k9 + 1) rfl (by omega) (Nat.le_of_ble_eq_true rfl) (v := C 3 k9) (lrE_1 C N S k9) dL_tells_461 ?_
    refine g_iconst X (v := nI 1) dL_tells_462 (by decide +kernel) ?_
    have J14 : ∀ (v13 : Nat), v13 = (if ¬ (C 3 k9) = (nI 1) then if ¬ (lwN (zv >>> ((nI 6) &&& 31)) 4) = 0 then lwN (zv >>> ((nI 6) &&& 31)) 1001 else 1000 else lwN (zv >>> ((nI 6) &&& 31)) 11) → g_G p l e rm_L_tells s m args below meth c D A 16 0 0 Q (wX2 x cI cJ cZ C N S Qk Z jC jN jS jQ jZ ++ wL y cI cJ C N S Qk) [(0, .ref (x 0)), (7, .ref (y 5)), (12, .int (nI k9)), (13, .int (C 4 k9))] 505 [.int (nI v13), .int (nI (7 * k9 + 2)), .ref (y 5)] := by
      intro v13 ev13
      have bv13 : v13 < 2147483648 := by subst ev13; (repeat' split) <;> omega
      have ho1 : C 3 k9 = 0 → v13 ≤ 1000 := fun _ => by rw [ev13]; (repeat' split) <;> omega
      have ho2 : ¬ C 3 k9 = 0 → v13 ≤ 10 := fun z => by rw [ev13, if_neg (fun q => q (hk3.resolve_left z))]; omega
      obtain ⟨aC15, eaC15⟩ : ∃ z : Cf, z = c2 C 4 k9 (nI v13) := ⟨_, rfl⟩
      refine g_iast X (ws' := wX2 x cI cJ cZ C N S Qk Z jC jN jS jQ jZ ++ wL y cI cJ aC15 N S Qk) 76 rfl (7 * k9 + 2) rfl (by omega) (Nat.le_of_ble_eq_true rfl) dL_tells_505 (by rw [eaC15]; first | done | (rw [lrE_w2]; rfl)) ?_
      refine g_aload_n X 0 dL_tells_506 rfl rfl ?_
      refine g_iload X 2 dL_tells_507 rfl ?_
      refine g_aload X 1 dL_tells_509 rfl ?_
      refine g_bipush X (v := nI 7) dL_tells_511 (by decide +kernel) ?_
      refine g_iload X 2 dL_tells_513 rfl ?_
      refine g_imul X (v := nI (7 * k9)) dL_tells_515 (pk_mul _ _) ?_
      refine g_iconst X (v := nI 2) dL_tells_516 (by decide +kernel) ?_
      refine g_iadd X (v := nI (7 * k9 + 2)) dL_tells_517 ((nI_add _ _).trans (congrArg nI (by omega))) ?_
      refine g_iald X 76 rfl (7 * k9 + 2) rfl (by omega) (Nat.le_of_ble_eq_true rfl) (v := nI v13) ((show _ = aC15 4 k9 from (lrE_2 aC15 N S k9)).trans (by rw [eaC15, c2_ap, if_pos ⟨rfl, rfl⟩])) dL_tells_518 ?_
      obtain ⟨C16, eC16⟩ : ∃ z : Cf, z = c2 C 4 k9 (nI v13) := ⟨_, rfl⟩
      refine g_callV X (As := [.int (nI k9), .int (nI v13)]) (rest := []) (c_open l D cI cJ cZ x (x 36) C N S Qk Z k9 v13 hk9 ho1 ho2 hC) kM_L_132 kI_yX6_open kS_yX6_open kZ_RX6 kC_yX6_open hV_X6_open rfl rfl rfl 0 rfl (ci := 6) rfl ⟨Nat.le_of_ble_eq_true rfl, Nat.le_of_ble_eq_true rfl⟩ ⟨Nat.le_of_ble_eq_true rfl, Nat.le_of_ble_eq_true rfl⟩ (Nat.le_of_ble_eq_true rfl) dL_tells_519 rfl (em_I 0 36 36 0) (em_C (by decide) (Nat.le_of_ble_eq_true rfl) rfl) (em_nd (by decide)) (g_kk1 (w2 := wX2 x cI cJ cZ C16 N S Qk Z jC jN jS jQ jZ ++ wL y cI cJ aC15 N S Qk) (by rw [eC16]; exact (em3 0 36 36 0 (by decide) (Nat.le_of_ble_eq_true rfl) rfl rfl rfl)) ?_)
      refine g_iload X 3 dL_tells_522 rfl ?_
      refine g_icmp_ne X (tgt := 531) dL_tells_524 (by decide) (fun h17 => absurd rfl h17) (fun h17 => ?_)
      refine g_iconst X (v := nI 1) dL_tells_527 (by decide +kernel) ?_
      refine g_goto X (tgt := 532) dL_tells_528 (by decide) ?_
      refine g_zret X hr hlk hQ (by decide +kernel) dL_tells_532 ⟨rfl, C16, N, S, ?_, ?_, ?_⟩
      · rw [eC16]; exact LV_open k9 v13 hL hm hk9 ho1 ho2
      · exact ⟨Nat.le_refl _, Nat.le_refl _, Nat.le_refl _⟩
      · rw [(show aC15 = C16 from by (repeat (first | rw [eaC15] | rw [eC16])); first | done | rfl)]
    refine g_icmp_ne X (tgt := 478) dL_tells_463 (by decide) (fun h8 => ?_) (fun h8 => ?_)
    · --
      refine g_iload_n X 4 dL_tells_478 rfl rfl ?_
      refine g_bipush X (v := nI 6) dL_tells_479 (by decide +kernel) ?_
      refine g_ishr X (v := zv >>> ((nI 6) &&& 31)) dL_tells_481 rfl ?_
      refine g_iconst X (v := nI 4) dL_tells_482 (by decide +kernel) ?_
      have fl9 := lwN_lt (zv >>> ((nI 6) &&& 31)) (n := 4) (by omega)
      refine g_callS X (As := [.int (zv >>> ((nI 6) &&& 31)), .int (nI 4)]) (rest := [.int (nI (7 * k9 + 2)), .ref (y 5)]) (m_L_low l D cI cJ cZ (zv >>> ((nI 6) &&& 31)) 4 (by omega) (by omega)) kM_L_114 kT_yL_low kZ_RL kC_yL_low hV_L_low rfl rfl rfl ⟨Nat.le_of_ble_eq_true rfl, Nat.le_of_ble_eq_true rfl⟩ ⟨Nat.le_of_ble_eq_true rfl, Nat.le_of_ble_eq_true rfl⟩ (Nat.le_of_ble_eq_true rfl) dL_tells_483 rfl [] rfl (by decide +kernel) (g_kk1 (w2 := wX2 x cI cJ cZ C N S Qk Z jC jN jS jQ jZ ++ wL y cI cJ C N S Qk) em0 ?_)
      refine g_iN_ne X (a := (lwN (zv >>> ((nI 6) &&& 31)) 4)) (tgt := 495) (by omega) dL_tells_486 (by decide) (fun h10 => ?_) (fun h10 => ?_)
      · --
        refine g_iload_n X 4 dL_tells_495 rfl rfl ?_
        refine g_bipush X (v := nI 6) dL_tells_496 (by decide +kernel) ?_
        refine g_ishr X (v := zv >>> ((nI 6) &&& 31)) dL_tells_498 rfl ?_
        refine g_sipush X (v := nI 1001) dL_tells_499 (by decide +kernel) ?_
        have fl11 := lwN_lt (zv >>> ((nI 6) &&& 31)) (n := 1001) (by omega)
        refine g_callS X (As := [.int (zv >>> ((nI 6) &&& 31)), .int (nI 1001)]) (rest := [.int (nI (7 * k9 + 2)), .ref (y 5)]) (m_L_low l D cI cJ cZ (zv >>> ((nI 6) &&& 31)) 1001 (by omega) (by omega)) kM_L_114 kT_yL_low kZ_RL kC_yL_low hV_L_low rfl rfl rfl ⟨Nat.le_of_ble_eq_true rfl, Nat.le_of_ble_eq_true rfl⟩ ⟨Nat.le_of_ble_eq_true rfl, Nat.le_of_ble_eq_true rfl⟩ (Nat.le_of_ble_eq_true rfl) dL_tells_502 rfl [] rfl (by decide +kernel) (g_kk1 (w2 := wX2 x cI cJ cZ C N S Qk Z jC jN jS jQ jZ ++ wL y cI cJ C N S Qk) em0 ?_)
        refine g_lv _ [2, 9, 1, 0] rfl ?_
        exact J14 _ (by rw [if_pos (c := ¬ (C 3 k9) = (nI 1)) h8, if_pos (c := ¬ (lwN (zv >>> ((nI 6) &&& 31)) 4) = 0) h10])
      · --
        refine g_sipush X (v := nI 1000) dL_tells_489 (by decide +kernel) ?_
        refine g_goto X (tgt := 505) dL_tells_492 (by decide) ?_
        refine g_lv _ [2, 9, 1, 0] rfl ?_
        exact J14 _ (by rw [if_pos (c := ¬ (C 3 k9) = (nI 1)) h8, if_neg (c := ¬ (lwN (zv >>> ((nI 6) &&& 31)) 4) = 0) (fun z => z h10)])
    · --
      refine g_iload_n X 4 dL_tells_466 rfl rfl ?_
      refine g_bipush X (v := nI 6) dL_tells_467 (by decide +kernel) ?_
      refine g_ishr X (v := zv >>> ((nI 6) &&& 31)) dL_tells_469 rfl ?_
      refine g_bipush X (v := nI 11) dL_tells_470 (by decide +kernel) ?_
      have fl12 := lwN_lt (zv >>> ((nI 6) &&& 31)) (n := 11) (by omega)
      refine g_callS X (As := [.int (zv >>> ((nI 6) &&& 31)), .int (nI 11)]) (rest := [.int (nI (7 * k9 + 2)), .ref (y 5)]) (m_L_low l D cI cJ cZ (zv >>> ((nI 6) &&& 31)) 11 (by omega) (by omega)) kM_L_114 kT_yL_low kZ_RL kC_yL_low hV_L_low rfl rfl rfl ⟨Nat.le_of_ble_eq_true rfl, Nat.le_of_ble_eq_true rfl⟩ ⟨Nat.le_of_ble_eq_true rfl, Nat.le_of_ble_eq_true rfl⟩ (Nat.le_of_ble_eq_true rfl) dL_tells_472 rfl [] rfl (by decide +kernel) (g_kk1 (w2 := wX2 x cI cJ cZ C N S Qk Z jC jN jS jQ jZ ++ wL y cI cJ C N S Qk) em0 ?_)
      refine g_goto X (tgt := 505) dL_tells_475 (by decide) ?_
      refine g_lv _ [2, 9, 1, 0] rfl ?_
      exact J14 _ (by rw [if_neg (c := ¬ (C 3 k9) = (nI 1)) (fun z => z h8)])
  · --
    refine g_iconst X (v := nI 1) dL_tells_417 (by decide +kernel) ?_
    refine g_zret X hr hlk hQ (by decide +kernel) dL_tells_418 ⟨rfl, C, N, S, ?_, ?_, ?_⟩
    · exact hL
    · exact ⟨Nat.le_refl _, Nat.le_refl _, Nat.le_refl _⟩
    · rfl
set_option maxRecDepth 100000 in
set_option maxHeartbeats 4000000 in
theorem n_tells_5 (l : Launch) (D : va_G) (cI cJ cZ : ClassId) (x y : Nat → Nat) (C : Cf) (N : Nat → Nat) (S : St) (Qk : Nat → Int64) (Z : St) (jC : Cf) (jN : Nat → Nat) (jS : St) (jQ : Nat → Int64) (jZ : St) (zv : Int32) (b : Nat) (hb : b < 12) (mo : Nat) (hm : mo ≤ 600) (hL : LV C N S mo) {p : Program} {e : Env} {s : State} {m : MethodId} {args : Array Value} {below : List Frame} {meth : Method} {c : Code} {A : Nat → Prop} (X : g_Cx p s m args c D A 16 cL_tells RL cI cJ cZ) (hr : meth.sig.returnType = (some .boolean)) (hlk : meth.locks = false) {Q : State → Prop} (hQ : MQ below (g_Post D A (TP x y cI cJ cZ N Qk Z jC jN jS jQ jZ mo)) args s 0 0 A = Q) : g_G p l e rm_L_tells s m args below meth c D A 16 0 0 Q (wX2 x cI cJ cZ C N S Qk Z jC jN jS jQ jZ ++ wL y cI cJ C N S Qk) [(0, .ref (x 0)), (1, .int (nI 5)), (2, .int zv), (3, .ref (y 0)), (4, .ref (y 1)), (5, .ref (y 2)), (6, .ref (y 4)), (7, .ref (y 5)), (8, .ref (y 7)), (9, .ref (y 9)), (10, .ref (y 12)), (11, .int (nI b))] 8 [] := by
  have hC := hL.c
  have hW := hL.wok hm
  have hn0 := hL.2.2.2.1
  have hn1 := hL.2.2.2.2.1
  have hn2 := hL.2.2.2.2.2
  refine g_iload_n X 1 dL_tells_8 rfl rfl ?_
  refine g_iN_ne X (a := 5) (tgt := 121) (by omega) dL_tells_9 (by decide) (fun h1 => ?_) (fun h1 => absurd h1 (by decide))
  refine g_iload_n X 1 dL_tells_121 rfl rfl ?_
  refine g_iconst X (v := nI 1) dL_tells_122 (by decide +kernel) ?_
  refine g_icN_ne X (a := 5) (b := 1) (tgt := 235) (by omega) (by omega) dL_tells_123 (by decide) (fun h2 => ?_) (fun h2 => absurd h2 (by decide))
  refine g_iload_n X 1 dL_tells_235 rfl rfl ?_
  refine g_iconst X (v := nI 2) dL_tells_236 (by decide +kernel) ?_
  refine g_icN_ne X (a := 5) (b := 2) (tgt := 278) (by omega) (by omega) dL_tells_237 (by decide) (fun h3 => ?_) (fun h3 => absurd h3 (by decide))
  refine g_iload_n X 1 dL_tells_278 rfl rfl ?_
  refine g_iconst X (v := nI 3) dL_tells_279 (by decide +kernel) ?_
  refine g_icN_ne X (a := 5) (b := 3) (tgt := 405) (by omega) (by omega) dL_tells_280 (by decide) (fun h4 => ?_) (fun h4 => absurd h4 (by decide))
  refine g_iload_n X 1 dL_tells_405 rfl rfl ?_
  refine g_iconst X (v := nI 4) dL_tells_406 (by decide +kernel) ?_
  refine g_icN_ne X (a := 5) (b := 4) (tgt := 533) (by omega) (by omega) dL_tells_407 (by decide) (fun h5 => ?_) (fun h5 => absurd h5 (by decide))
  refine g_iload_n X 1 dL_tells_533 rfl rfl ?_
  refine g_iconst X (v := nI 5) dL_tells_534 (by decide +kernel) ?_
  refine g_icN_ne X (a := 5) (b := 5) (tgt := 621) (by omega) (by omega) dL_tells_535 (by decide) (fun h6 => absurd rfl h6) (fun h6 => ?_)
  refine g_aload X 10 dL_tells_538 rfl ?_
  refine g_iconst X (v := nI 1) dL_tells_540 (by decide +kernel) ?_
  refine g_iald X 83 rfl (1) rfl (by omega) (Nat.le_of_ble_eq_true rfl) (v := nI (N 0)) rfl dL_tells_541 ?_
  refine g_iN_eq X (a := (N 0)) (tgt := 567) (by omega) dL_tells_542 (by decide) (fun h7 => ?_) (fun h7 => ?_)
  · --
    refine g_iconst X (v := nI 1) dL_tells_567 (by decide +kernel) ?_
    refine g_zret X hr hlk hQ (by decide +kernel) dL_tells_568 ⟨rfl, C, N, S, ?_, ?_, ?_⟩
    · exact hL
    · exact ⟨Nat.le_refl _, Nat.le_refl _, Nat.le_refl _⟩
    · rfl
  · --
    refine g_aload X 7 dL_tells_545 rfl ?_
    refine g_bipush X (v := nI 7) dL_tells_547 (by decide +kernel) ?_
    refine g_iload_n X 2 dL_tells_549 rfl rfl ?_
    refine g_iconst X (v := nI 3) dL_tells_550 (by decide +kernel) ?_
    refine g_ishr X (v := zv >>> ((nI 3) &&& 31)) dL_tells_551 rfl ?_
    refine g_aload X 10 dL_tells_552 rfl ?_
    refine g_iconst X (v := nI 1) dL_tells_554 (by decide +kernel) ?_
    refine g_iald X 83 rfl (1) rfl (by omega) (Nat.le_of_ble_eq_true rfl) (v := nI (N 0)) rfl dL_tells_555 ?_
    have fl8 := lwN_lt (zv >>> ((nI 3) &&& 31)) (n := N 0) (by omega)
    refine g_callS X (As := [.int (zv >>> ((nI 3) &&& 31)), .int (nI (N 0))]) (rest := [.int (nI 7), .ref (y 5)]) (m_L_low l D cI cJ cZ (zv >>> ((nI 3) &&& 31)) (N 0) (by omega) (by omega)) kM_L_114 kT_yL_low kZ_RL kC_yL_low hV_L_low rfl rfl rfl ⟨Nat.le_of_ble_eq_true rfl, Nat.le_of_ble_eq_true rfl⟩ ⟨Nat.le_of_ble_eq_true rfl, Nat.le_of_ble_eq_true rfl⟩ (Nat.le_of_ble_eq_true rfl) dL_tells_556 rfl [] rfl (by decide +kernel) (g_kk1 (w2 := wX2 x cI cJ cZ C N S Qk Z jC jN jS jQ jZ ++ wL y cI cJ C N S Qk) em0 ?_)
    obtain ⟨k9, ek9⟩ : ∃ z : Nat, z = lwN (zv >>> ((nI 3) &&& 31)) (N 0) := ⟨_, rfl⟩
    have hk9 : k9 < N 0 := by rw [ek9]; exact lwN_lt _ (by omega)
    refine g_st (st' := [.int (nI k9), .int (nI 7), .ref (y 5)]) (by rw [ek9]; first | done | rfl) ?_
    have hk3 : C 3 k9 = 0 ∨ C 3 k9 = nI 1 := hL.1.2.2.2.1 k9 hk9
    refine g_imul X (v := nI (7 * k9)) dL_tells_559 (pk_mul _ _) ?_
    refine g_iconst X (v := nI 1) dL_tells_560 (by decide +kernel) ?_
    refine g_iadd X (v := nI (7 * k9 + 1)) dL_tells_561 ((nI_add _ _).trans (congrArg nI (by omega))) ?_
    refine g_iald X 76 rfl (7 * k9 + 1) rfl (by omega) (Nat.le_of_ble_eq_true rfl) (v := C 3 k9) (lrE_1 C N S k9) dL_tells_562 ?_
    refine g_iconst X (v := nI 1) dL_tells_563 (by decide +kernel) ?_
    refine g_icmp_ne X (tgt := 569) dL_tells_564 (by decide) (fun h9 => ?_) (fun h9 => ?_)
    · --
      refine g_iload_n X 2 dL_tells_569 rfl rfl ?_
      refine g_iconst X (v := nI 3) dL_tells_570 (by decide +kernel) ?_
      refine g_ishr X (v := zv >>> ((nI 3) &&& 31)) dL_tells_571 rfl ?_
      refine g_aload X 10 dL_tells_572 rfl ?_
      refine g_iconst X (v := nI 1) dL_tells_574 (by decide +kernel) ?_
      refine g_iald X 83 rfl (1) rfl (by omega) (Nat.le_of_ble_eq_true rfl) (v := nI (N 0)) rfl dL_tells_575 ?_
      have fl10 := lwN_lt (zv >>> ((nI 3) &&& 31)) (n := N 0) (by omega)
      refine g_callS X (As := [.int (zv >>> ((nI 3) &&& 31)), .int (nI (N 0))]) (rest := []) (m_L_low l D cI cJ cZ (zv >>> ((nI 3) &&& 31)) (N 0) (by omega) (by omega)) kM_L_114 kT_yL_low kZ_RL kC_yL_low hV_L_low rfl rfl rfl ⟨Nat.le_of_ble_eq_true rfl, Nat.le_of_ble_eq_true rfl⟩ ⟨Nat.le_of_ble_eq_true rfl, Nat.le_of_ble_eq_true rfl⟩ (Nat.le_of_ble_eq_true rfl) dL_tells_576 rfl [] rfl (by decide +kernel) (g_kk1 (w2 := wX2 x cI cJ cZ C N S Qk Z jC jN jS jQ jZ ++ wL y cI cJ C N S Qk) em0 ?_)
      refine g_st (st' := [.int (nI k9)]) (by rw [ek9]; first | done | rfl) ?_
      refine g_istore X [(12, .int (nI k9)), (0, .ref (x 0)), (1, .int (nI 5)), (2, .int zv), (3, .ref (y 0)), (4, .ref (y 1)), (5, .ref (y 2)), (6, .ref (y 4)), (7, .ref (y 5)), (8, .ref (y 7)), (9, .ref (y 9)), (10, .ref (y 12)), (11, .int (nI b))] dL_tells_579 (Nat.le_of_ble_eq_true rfl) rfl ?_
      refine g_aload X 8 dL_tells_581 rfl ?_
      refine g_bipush X (v := nI 7) dL_tells_583 (by decide +kernel) ?_
      refine g_iload X 0 dL_tells_585 rfl ?_
      refine g_imul X (v := nI (7 * k9)) dL_tells_587 (pk_mul _ _) ?_
      refine g_iconst X (v := nI 3) dL_tells_588 (by decide +kernel) ?_
      refine g_iadd X (v := nI (7 * k9 + 3)) dL_tells_589 ((nI_add _ _).trans (congrArg nI (by omega))) ?_
      refine g_iald X 76 rfl (7 * k9 + 3) rfl (by omega) (Nat.le_of_ble_eq_true rfl) (v := (S 4 k9).toInt32) (lrE_3 C N S k9) dL_tells_590 ?_
      refine g_istore X [(13, .int ((S 4 k9).toInt32)), (12, .int (nI k9)), (0, .ref (x 0)), (1, .int (nI 5)), (2, .int zv), (3, .ref (y 0)), (4, .ref (y 1)), (5, .ref (y 2)), (6, .ref (y 4)), (7, .ref (y 5)), (8, .ref (y 7)), (9, .ref (y 9)), (10, .ref (y 12)), (11, .int (nI b))] dL_tells_591 (Nat.le_of_ble_eq_true rfl) rfl ?_
      refine g_aload X 9 dL_tells_593 rfl ?_
      refine g_bipush X (v := nI 7) dL_tells_595 (by decide +kernel) ?_
      refine g_iload X 1 dL_tells_597 rfl ?_
      refine g_imul X (v := nI (7 * k9)) dL_tells_599 (pk_mul _ _) ?_
      refine g_iconst X (v := nI 3) dL_tells_600 (by decide +kernel) ?_
      refine g_iadd X (v := nI (7 * k9 + 3)) dL_tells_601 ((nI_add _ _).trans (congrArg nI (by omega))) ?_
      refine g_iconst X (v := nI 0) dL_tells_602 (by decide +kernel) ?_
      obtain ⟨aS11, eaS11⟩ : ∃ z : St, z = u2 S 4 k9 0 := ⟨_, rfl⟩
      refine g_iast X (ws' := wX2 x cI cJ cZ C N S Qk Z jC jN jS jQ jZ ++ wL y cI cJ C N aS11 Qk) 76 rfl (7 * k9 + 3) rfl (by omega) (Nat.le_of_ble_eq_true rfl) dL_tells_603 (by rw [eaS11]; first | done | (rw [lrE_w3 _ _ _ k9 (v := 0) (by decide)]; rfl)) ?_
      refine g_aload_n X 2 dL_tells_604 rfl rfl ?_
      refine g_iload X 1 dL_tells_605 rfl ?_
      obtain ⟨S12, eS12⟩ : ∃ z : St, z = u2 S 4 k9 0 := ⟨_, rfl⟩
      refine g_callV X (As := [.int (nI k9)]) (rest := []) (c_clean l D cI cJ cZ x (x 36) C N S Qk Z k9 hk9 (hk3.resolve_right (by assumption)) hC) kM_L_135 kI_yX6_clean kS_yX6_clean kZ_RX6 kC_yX6_clean hV_X6_clean rfl rfl rfl 0 rfl (ci := 6) rfl ⟨Nat.le_of_ble_eq_true rfl, Nat.le_of_ble_eq_true rfl⟩ ⟨Nat.le_of_ble_eq_true rfl, Nat.le_of_ble_eq_true rfl⟩ (Nat.le_of_ble_eq_true rfl) dL_tells_607 rfl (em_I 0 36 36 0) (em_C (by decide) (Nat.le_of_ble_eq_true rfl) rfl) (em_nd (by decide)) (g_kk1 (w2 := wX2 x cI cJ cZ C N S12 Qk Z jC jN jS jQ jZ ++ wL y cI cJ C N aS11 Qk) (by rw [eS12]; exact (em3 0 36 36 0 (by decide) (Nat.le_of_ble_eq_true rfl) rfl rfl rfl)) ?_)
      refine g_iload X 0 dL_tells_610 rfl ?_
      refine g_icmp_ne X (tgt := 619) dL_tells_612 (by decide) (fun h13 => absurd rfl h13) (fun h13 => ?_)
      refine g_iconst X (v := nI 1) dL_tells_615 (by decide +kernel) ?_
      refine g_goto X (tgt := 620) dL_tells_616 (by decide) ?_
      refine g_zret X hr hlk hQ (by decide +kernel) dL_tells_620 ⟨rfl, C, N, S12, ?_, ?_, ?_⟩
      · rw [eS12]; exact LV_clean k9 hL hm hk9
      · exact ⟨Nat.le_refl _, Nat.le_refl _, Nat.le_refl _⟩
      · rw [(show aS11 = S12 from by (repeat (first | rw [eaS11] | rw [eS12])); first | done | rfl)]
    · --
      refine g_iconst X (v := nI 1) dL_tells_567 (by decide +kernel) ?_
      refine g_zret X hr hlk hQ (by decide +kernel) dL_tells_568 ⟨rfl, C, N, S, ?_, ?_, ?_⟩
      · exact hL
      · exact ⟨Nat.le_refl _, Nat.le_refl _, Nat.le_refl _⟩
      · rfl
set_option maxRecDepth 100000 in
set_option maxHeartbeats 4000000 in
theorem n_tells_6 (l : Launch) (D : va_G) (cI cJ cZ : ClassId) (x y : Nat → Nat) (C : Cf) (N : Nat → Nat) (S : St) (Qk : Nat → Int64) (Z : St) (jC : Cf) (jN : Nat → Nat) (jS : St) (jQ : Nat → Int64) (jZ : St) (zv : Int32) (b : Nat) (hb : b < 12) (mo : Nat) (hm : mo ≤ 600) (hL : LV C N S mo) {p : Program} {e : Env} {s : State} {m : MethodId} {args : Array Value} {below : List Frame} {meth : Method} {c : Code} {A : Nat → Prop} (X : g_Cx p s m args c D A 16 cL_tells RL cI cJ cZ) (hr : meth.sig.returnType = (some .boolean)) (hlk : meth.locks = false) {Q : State → Prop} (hQ : MQ below (g_Post D A (TP x y cI cJ cZ N Qk Z jC jN jS jQ jZ mo)) args s 0 0 A = Q) : g_G p l e rm_L_tells s m args below meth c D A 16 0 0 Q (wX2 x cI cJ cZ C N S Qk Z jC jN jS jQ jZ ++ wL y cI cJ C N S Qk) [(0, .ref (x 0)), (1, .int (nI 6)), (2, .int zv), (3, .ref (y 0)), (4, .ref (y 1)), (5, .ref (y 2)), (6, .ref (y 4)), (7, .ref (y 5)), (8, .ref (y 7)), (9, .ref (y 9)), (10, .ref (y 12)), (11, .int (nI b))] 8 [] := by
  have hC := hL.c
  have hW := hL.wok hm
  have hn0 := hL.2.2.2.1
  have hn1 := hL.2.2.2.2.1
  have hn2 := hL.2.2.2.2.2
  refine g_iload_n X 1 dL_tells_8 rfl rfl ?_
  refine g_iN_ne X (a := 6) (tgt := 121) (by omega) dL_tells_9 (by decide) (fun h1 => ?_) (fun h1 => absurd h1 (by decide))
  refine g_iload_n X 1 dL_tells_121 rfl rfl ?_
  refine g_iconst X (v := nI 1) dL_tells_122 (by decide +kernel) ?_
  refine g_icN_ne X (a := 6) (b := 1) (tgt := 235) (by omega) (by omega) dL_tells_123 (by decide) (fun h2 => ?_) (fun h2 => absurd h2 (by decide))
  refine g_iload_n X 1 dL_tells_235 rfl rfl ?_
  refine g_iconst X (v := nI 2) dL_tells_236 (by decide +kernel) ?_
  refine g_icN_ne X (a := 6) (b := 2) (tgt := 278) (by omega) (by omega) dL_tells_237 (by decide) (fun h3 => ?_) (fun h3 => absurd h3 (by decide))
  refine g_iload_n X 1 dL_tells_278 rfl rfl ?_
  refine g_iconst X (v := nI 3) dL_tells_279 (by decide +kernel) ?_
  refine g_icN_ne X (a := 6) (b := 3) (tgt := 405) (by omega) (by omega) dL_tells_280 (by decide) (fun h4 => ?_) (fun h4 => absurd h4 (by decide))
  refine g_iload_n X 1 dL_tells_405 rfl rfl ?_
  refine g_iconst X (v := nI 4) dL_tells_406 (by decide +kernel) ?_
  refine g_icN_ne X (a := 6) (b := 4) (tgt := 533) (by omega) (by omega) dL_tells_407 (by decide) (fun h5 => ?_) (fun h5 => absurd h5 (by decide))
  refine g_iload_n X 1 dL_tells_533 rfl rfl ?_
  refine g_iconst X (v := nI 5) dL_tells_534 (by decide +kernel) ?_
  refine g_icN_ne X (a := 6) (b := 5) (tgt := 621) (by omega) (by omega) dL_tells_535 (by decide) (fun h6 => ?_) (fun h6 => absurd h6 (by decide))
  refine g_iload_n X 1 dL_tells_621 rfl rfl ?_
  refine g_bipush X (v := nI 6) dL_tells_622 (by decide +kernel) ?_
  refine g_icN_ne X (a := 6) (b := 6) (tgt := 724) (by omega) (by omega) dL_tells_624 (by decide) (fun h7 => absurd rfl h7) (fun h7 => ?_)
  refine g_aload X 10 dL_tells_627 rfl ?_
  refine g_iconst X (v := nI 3) dL_tells_629 (by decide +kernel) ?_
  refine g_iald X 83 rfl (3) rfl (by omega) (Nat.le_of_ble_eq_true rfl) (v := nI (N 1)) rfl dL_tells_630 ?_
  refine g_iconst X (v := nI 3) dL_tells_631 (by decide +kernel) ?_
  refine g_icN_ne X (a := N 1) (b := 3) (tgt := 637) (by omega) (by omega) dL_tells_632 (by decide) (fun h8 => ?_) (fun h8 => ?_)
  · --
    refine g_aload X 9 dL_tells_637 rfl ?_
    refine g_iconst X (v := nI 2) dL_tells_639 (by decide +kernel) ?_
    refine g_aload X 10 dL_tells_640 rfl ?_
    refine g_iconst X (v := nI 3) dL_tells_642 (by decide +kernel) ?_
    refine g_iald X 83 rfl (3) rfl (by omega) (Nat.le_of_ble_eq_true rfl) (v := nI (N 1)) rfl dL_tells_643 ?_
    refine g_imul X (v := nI (2 * (N 1))) dL_tells_644 (pk_mul _ _) ?_
    refine g_iload_n X 2 dL_tells_645 rfl rfl ?_
    refine g_iconst X (v := nI 3) dL_tells_646 (by decide +kernel) ?_
    refine g_ishr X (v := zv >>> ((nI 3) &&& 31)) dL_tells_647 rfl ?_
    refine g_bipush X (v := nI 101) dL_tells_648 (by decide +kernel) ?_
    have fl9 := lwN_lt (zv >>> ((nI 3) &&& 31)) (n := 101) (by omega)
    refine g_callS X (As := [.int (zv >>> ((nI 3) &&& 31)), .int (nI 101)]) (rest := [.int (nI (2 * (N 1))), .ref (y 9)]) (m_L_low l D cI cJ cZ (zv >>> ((nI 3) &&& 31)) 101 (by omega) (by omega)) kM_L_114 kT_yL_low kZ_RL kC_yL_low hV_L_low rfl rfl rfl ⟨Nat.le_of_ble_eq_true rfl, Nat.le_of_ble_eq_true rfl⟩ ⟨Nat.le_of_ble_eq_true rfl, Nat.le_of_ble_eq_true rfl⟩ (Nat.le_of_ble_eq_true rfl) dL_tells_650 rfl [] rfl (by decide +kernel) (g_kk1 (w2 := wX2 x cI cJ cZ C N S Qk Z jC jN jS jQ jZ ++ wL y cI cJ C N S Qk) em0 ?_)
    obtain ⟨a9, ea9⟩ : ∃ z : Nat, z = lwN (zv >>> ((nI 3) &&& 31)) 101 := ⟨_, rfl⟩
    have ha9 : a9 < 101 := by rw [ea9]; exact lwN_lt _ (by omega)
    refine g_st (st' := [.int (nI a9), .int (nI (2 * (N 1))), .ref (y 9)]) (by rw [ea9]; first | done | rfl) ?_
    obtain ⟨aC10, eaC10⟩ : ∃ z : Cf, z = c2 C 5 (N 1) (nI a9) := ⟨_, rfl⟩
    refine g_iast X (ws' := wX2 x cI cJ cZ C N S Qk Z jC jN jS jQ jZ ++ wL y cI cJ aC10 N S Qk) 80 rfl (2 * (N 1)) rfl (by omega) (Nat.le_of_ble_eq_true rfl) dL_tells_653 (by rw [eaC10]; first | done | (rw [lrU_w0]; rfl)) ?_
    refine g_aload X 9 dL_tells_654 rfl ?_
    refine g_iconst X (v := nI 2) dL_tells_656 (by decide +kernel) ?_
    refine g_aload X 10 dL_tells_657 rfl ?_
    refine g_iconst X (v := nI 3) dL_tells_659 (by decide +kernel) ?_
    refine g_iald X 83 rfl (3) rfl (by omega) (Nat.le_of_ble_eq_true rfl) (v := nI (N 1)) rfl dL_tells_660 ?_
    refine g_imul X (v := nI (2 * (N 1))) dL_tells_661 (pk_mul _ _) ?_
    refine g_iconst X (v := nI 1) dL_tells_662 (by decide +kernel) ?_
    refine g_iadd X (v := nI (2 * (N 1) + 1)) dL_tells_663 ((nI_add _ _).trans (congrArg nI (by omega))) ?_
    refine g_iconst X (v := nI 1) dL_tells_664 (by decide +kernel) ?_
    refine g_iload_n X 2 dL_tells_665 rfl rfl ?_
    refine g_iconst X (v := nI 5) dL_tells_666 (by decide +kernel) ?_
    refine g_ishr X (v := zv >>> ((nI 5) &&& 31)) dL_tells_667 rfl ?_
    refine g_bipush X (v := nI 50) dL_tells_668 (by decide +kernel) ?_
    have fl11 := lwN_lt (zv >>> ((nI 5) &&& 31)) (n := 50) (by omega)
    refine g_callS X (As := [.int (zv >>> ((nI 5) &&& 31)), .int (nI 50)]) (rest := [.int (nI 1), .int (nI (2 * (N 1) + 1)), .ref (y 9)]) (m_L_low l D cI cJ cZ (zv >>> ((nI 5) &&& 31)) 50 (by omega) (by omega)) kM_L_114 kT_yL_low kZ_RL kC_yL_low hV_L_low rfl rfl rfl ⟨Nat.le_of_ble_eq_true rfl, Nat.le_of_ble_eq_true rfl⟩ ⟨Nat.le_of_ble_eq_true rfl, Nat.le_of_ble_eq_true rfl⟩ (Nat.le_of_ble_eq_true rfl) dL_tells_670 rfl [] rfl (by decide +kernel) (g_kk1 (w2 := wX2 x cI cJ cZ C N S Qk Z jC jN jS jQ jZ ++ wL y cI cJ aC10 N S Qk) em0 ?_)
    obtain ⟨d9, ed9⟩ : ∃ z : Nat, z = lwN (zv >>> ((nI 5) &&& 31)) 50 := ⟨_, rfl⟩
    have hd9 : d9 < 50 := by rw [ed9]; exact lwN_lt _ (by omega)
    refine g_st (st' := [.int (nI d9), .int (nI 1), .int (nI (2 * (N 1) + 1)), .ref (y 9)]) (by rw [ed9]; first | done | rfl) ?_
    refine g_iadd X (v := nI (d9 + 1)) dL_tells_673 ((nI_add _ _).trans (congrArg nI (by omega))) ?_
    obtain ⟨aC12, eaC12⟩ : ∃ z : Cf, z = c2 aC10 6 (N 1) (nI (d9 + 1)) := ⟨_, rfl⟩
    refine g_iast X (ws' := wX2 x cI cJ cZ C N S Qk Z jC jN jS jQ jZ ++ wL y cI cJ aC12 N S Qk) 80 rfl (2 * (N 1) + 1) rfl (by omega) (Nat.le_of_ble_eq_true rfl) dL_tells_674 (by rw [eaC12]; first | done | (rw [lrU_w1]; rfl)) ?_
    refine g_aload X 10 dL_tells_675 rfl ?_
    refine g_iconst X (v := nI 3) dL_tells_677 (by decide +kernel) ?_
    refine g_dup2_11 X dL_tells_678 rfl rfl ?_
    refine g_iald X 83 rfl (3) rfl (by omega) (Nat.le_of_ble_eq_true rfl) (v := nI (N 1)) rfl dL_tells_679 ?_
    refine g_iconst X (v := nI 1) dL_tells_680 (by decide +kernel) ?_
    refine g_iadd X (v := nI (N 1 + 1)) dL_tells_681 ((nI_add _ _).trans (congrArg nI (by omega))) ?_
    obtain ⟨aN13, eaN13⟩ : ∃ z : Nat → Nat, z = n2 N 1 (N 1 + 1) := ⟨_, rfl⟩
    refine g_iast X (ws' := wX2 x cI cJ cZ C N S Qk Z jC jN jS jQ jZ ++ wL y cI cJ aC12 aN13 S Qk) 83 rfl (3) rfl (by omega) (Nat.le_of_ble_eq_true rfl) dL_tells_682 (by rw [eaN13]; first | done | (rw [lrQ_w3]; rfl)) ?_
    refine g_aload_n X 0 dL_tells_683 rfl rfl ?_
    refine g_aload X 9 dL_tells_684 rfl ?_
    refine g_iconst X (v := nI 2) dL_tells_686 (by decide +kernel) ?_
    refine g_aload X 10 dL_tells_687 rfl ?_
    refine g_iconst X (v := nI 3) dL_tells_689 (by decide +kernel) ?_
    refine g_iald X 83 rfl (3) rfl (by omega) (Nat.le_of_ble_eq_true rfl) (v := nI (N 1 + 1)) ((show _ = nI (aN13 1) from rfl).trans (by rw [eaN13]; rfl)) dL_tells_690 ?_
    refine g_imul X (v := nI (2 * (N 1 + 1))) dL_tells_691 (pk_mul _ _) ?_
    refine g_iconst X (v := nI 2) dL_tells_692 (by decide +kernel) ?_
    refine g_isub X (v := nI (2 * (N 1))) dL_tells_693 (by rw [pk_sub (by omega)]; exact congrArg nI (by omega)) ?_
    refine g_iald X 80 rfl (2 * (N 1)) rfl (by omega) (Nat.le_of_ble_eq_true rfl) (v := nI a9) ((show _ = aC12 5 (N 1) from (lrU_0 aC12 (N 1))).trans (by rw [eaC12, c2_ap, if_neg (by simp), eaC10, c2_ap, if_pos ⟨rfl, rfl⟩])) dL_tells_694 ?_
    refine g_aload X 9 dL_tells_695 rfl ?_
    refine g_iconst X (v := nI 2) dL_tells_697 (by decide +kernel) ?_
    refine g_aload X 10 dL_tells_698 rfl ?_
    refine g_iconst X (v := nI 3) dL_tells_700 (by decide +kernel) ?_
    refine g_iald X 83 rfl (3) rfl (by omega) (Nat.le_of_ble_eq_true rfl) (v := nI (N 1 + 1)) ((show _ = nI (aN13 1) from rfl).trans (by rw [eaN13]; rfl)) dL_tells_701 ?_
    refine g_imul X (v := nI (2 * (N 1 + 1))) dL_tells_702 (pk_mul _ _) ?_
    refine g_iconst X (v := nI 1) dL_tells_703 (by decide +kernel) ?_
    refine g_isub X (v := nI (2 * (N 1) + 1)) dL_tells_704 (by rw [pk_sub (by omega)]; exact congrArg nI (by omega)) ?_
    refine g_iald X 80 rfl (2 * (N 1) + 1) rfl (by omega) (Nat.le_of_ble_eq_true rfl) (v := nI (d9 + 1)) ((show _ = aC12 6 (N 1) from (lrU_1 aC12 (N 1))).trans (by rw [eaC12, c2_ap, if_pos ⟨rfl, rfl⟩])) dL_tells_705 ?_
    obtain ⟨C14, eC14⟩ : ∃ z : Cf, z = c2 (c2 C 5 (N 1) (nI a9)) 6 (N 1) (nI (d9 + 1)) := ⟨_, rfl⟩
    obtain ⟨N15, eN15⟩ : ∃ z : Nat → Nat, z = n2 N 1 (N 1 + 1) := ⟨_, rfl⟩
    refine g_callV X (As := [.int (nI a9), .int (nI (d9 + 1))]) (rest := []) (c_use l D cI cJ cZ x (x 36) C N S Qk Z a9 (d9 + 1) (by omega) (by omega) (by omega) (by omega) hC) kM_L_138 kI_yX6_use kS_yX6_use kZ_RX6 kC_yX6_use hV_X6_use rfl rfl rfl 0 rfl (ci := 6) rfl ⟨Nat.le_of_ble_eq_true rfl, Nat.le_of_ble_eq_true rfl⟩ ⟨Nat.le_of_ble_eq_true rfl, Nat.le_of_ble_eq_true rfl⟩ (Nat.le_of_ble_eq_true rfl) dL_tells_706 rfl (em_I 0 36 36 0) (em_C (by decide) (Nat.le_of_ble_eq_true rfl) rfl) (em_nd (by decide)) (g_kk1 (w2 := wX2 x cI cJ cZ C14 N15 S Qk Z jC jN jS jQ jZ ++ wL y cI cJ aC12 aN13 S Qk) (by rw [eN15]; rw [eC14]; exact (em3 0 36 36 0 (by decide) (Nat.le_of_ble_eq_true rfl) rfl rfl rfl)) ?_)
    refine g_aload X 10 dL_tells_709 rfl ?_
    refine g_iconst X (v := nI 3) dL_tells_711 (by decide +kernel) ?_
    refine g_iald X 83 rfl (3) rfl (by omega) (Nat.le_of_ble_eq_true rfl) (v := nI (N 1 + 1)) ((show _ = nI (aN13 1) from rfl).trans (by rw [eaN13]; rfl)) dL_tells_712 ?_
    refine g_iconst X (v := nI 1) dL_tells_713 (by decide +kernel) ?_
    refine g_isub X (v := nI ((N 1 + 1) - 1)) dL_tells_714 (pk_sub (by omega)) ?_
    refine g_icN_ne X (a := (N 1)) (b := ((N 1 + 1) - 1)) (tgt := 722) (by omega) (by omega) dL_tells_715 (by decide) (fun h16 => absurd (by omega) h16) (fun h16 => ?_)
    refine g_iconst X (v := nI 1) dL_tells_718 (by decide +kernel) ?_
    refine g_goto X (tgt := 723) dL_tells_719 (by decide) ?_
    refine g_zret X hr hlk hQ (by decide +kernel) dL_tells_723 ⟨rfl, C14, N15, S, ?_, ?_, ?_⟩
    · rw [eN15, eC14]; exact LV_use a9 (d9 + 1) hL hm (by omega) (by omega) (by omega)
    · rw [eN15]; refine ⟨?_, ?_, ?_⟩ <;> first | exact Nat.le_refl _ | exact Nat.le_succ _
    · rw [(show aC12 = C14 from by (repeat (first | rw [eaN13] | rw [eaC12] | rw [eaC10] | rw [eN15] | rw [eC14])); first | done | rfl), (show aN13 = N15 from by (repeat (first | rw [eaN13] | rw [eaC12] | rw [eaC10] | rw [eN15] | rw [eC14])); first | done | rfl)]
  · --
    refine g_iconst X (v := nI 1) dL_tells_635 (by decide +kernel) ?_
    refine g_zret X hr hlk hQ (by decide +kernel) dL_tells_636 ⟨rfl, C, N, S, ?_, ?_, ?_⟩
    · exact hL
    · exact ⟨Nat.le_refl _, Nat.le_refl _, Nat.le_refl _⟩
    · rfl
