set_option maxRecDepth 100000 in
set_option maxHeartbeats 4000000 in
theorem n_tells_3 (l : Launch) (D : va_G) (cI cJ cZ : ClassId) (x y : Nat → Nat) (C : Cf) (N : Nat → Nat) (S : St) (Qk : Nat → Int64) (Z : St) (jC : Cf) (jN : Nat → Nat) (jS : St) (jQ : Nat → Int64) (jZ : St) (zv : Int32) (b : Nat) (hb : b < 12) (mo : Nat) (hm : mo ≤ 600) (hL : LV C N S mo) {p : Program} {e : Env} {s : State} {m : MethodId} {args : Array Value} {below : List Frame} {meth : Method} {c : Code} {A : Nat → Prop} (X : g_Cx p s m args c D A 16 cL_tells RL cI cJ cZ) (hr : meth.sig.returnType = (some .boolean)) (hlk : meth.locks = false) {Q : State → Prop} (hQ : MQ below (g_Post D A (TP x y cI cJ cZ N Qk Z jC jN jS jQ jZ mo)) args s 0 0 A = Q) : g_G p l e rm_L_tells s m args below meth c D A 16 0 0 Q (wX2 x cI cJ cZ C N S Qk Z jC jN jS jQ jZ ++ wL y cI cJ C N S Qk) [(0, .ref (x 0)), (1, .int (nI 3)), (2, .int zv), (3, .ref (y 0)), (4, .ref (y 1)), (5, .ref (y 2)), (6, .ref (y 4)), (7, .ref (y 5)), (8, .ref (y 7)), (9, .ref (y 9)), (10, .ref (y 12)), (11, .int (nI b))] 8 [] := by
  have hC := hL.c
  have hW := hL.wok hm
  have hn0 := hL.2.2.2.1
  have hn1 := hL.2.2.2.2.1
  have hn2 := hL.2.2.2.2.2
  refine g_iload_n X 1 dL_tells_8 rfl rfl ?_
  refine g_iN_ne X (a := 3) (tgt := 121) (by omega) dL_tells_9 (by decide) (fun h1 => ?_) (fun h1 => absurd h1 (by decide))
  refine g_iload_n X 1 dL_tells_121 rfl rfl ?_
  refine g_iconst X (v := nI 1) dL_tells_122 (by decide +kernel) ?_
  refine g_icN_ne X (a := 3) (b := 1) (tgt := 235) (by omega) (by omega) dL_tells_123 (by decide) (fun h2 => ?_) (fun h2 => absurd h2 (by decide))
  refine g_iload_n X 1 dL_tells_235 rfl rfl ?_
  refine g_iconst X (v := nI 2) dL_tells_236 (by decide +kernel) ?_
  refine g_icN_ne X (a := 3) (b := 2) (tgt := 278) (by omega) (by omega) dL_tells_237 (by decide) (fun h3 => ?_) (fun h3 => absurd h3 (by decide))
  refine g_iload_n X 1 dL_tells_278 rfl rfl ?_
  refine g_iconst X (v := nI 3) dL_tells_279 (by decide +kernel) ?_
  refine g_icN_ne X (a := 3) (b := 3) (tgt := 405) (by omega) (by omega) dL_tells_280 (by decide) (fun h4 => absurd rfl h4) (fun h4 => ?_)
  refine g_aload X 10 dL_tells_283 rfl ?_
  refine g_iconst X (v := nI 1) dL_tells_285 (by decide +kernel) ?_
  refine g_iald X 83 rfl (1) rfl (by omega) (Nat.le_of_ble_eq_true rfl) (v := nI (N 0)) rfl dL_tells_286 ?_
  refine g_bipush X (v := nI 8) dL_tells_287 (by decide +kernel) ?_
  refine g_icN_ne X (a := N 0) (b := 8) (tgt := 294) (by omega) (by omega) dL_tells_289 (by decide) (fun h5 => ?_) (fun h5 => ?_)
  · --
    refine g_iload_n X 2 dL_tells_294 rfl rfl ?_
    refine g_iconst X (v := nI 4) dL_tells_295 (by decide +kernel) ?_
    refine g_ishr X (v := zv >>> ((nI 4) &&& 31)) dL_tells_296 rfl ?_
    refine g_iconst X (v := nI 3) dL_tells_297 (by decide +kernel) ?_
    have fl6 := lwN_lt (zv >>> ((nI 4) &&& 31)) (n := 3) (by omega)
    refine g_callS X (As := [.int (zv >>> ((nI 4) &&& 31)), .int (nI 3)]) (rest := []) (m_L_low l D cI cJ cZ (zv >>> ((nI 4) &&& 31)) 3 (by omega) (by omega)) kM_L_114 kT_yL_low kZ_RL kC_yL_low hV_L_low rfl rfl rfl ⟨Nat.le_of_ble_eq_true rfl, Nat.le_of_ble_eq_true rfl⟩ ⟨Nat.le_of_ble_eq_true rfl, Nat.le_of_ble_eq_true rfl⟩ (Nat.le_of_ble_eq_true rfl) dL_tells_298 rfl [] rfl (by decide +kernel) (g_kk1 (w2 := wX2 x cI cJ cZ C N S Qk Z jC jN jS jQ jZ ++ wL y cI cJ C N S Qk) em0 ?_)
    have J9 : ∀ (v8 : Bool), v8 = (if ¬ (lwN (zv >>> ((nI 4) &&& 31)) 3) = 0 then false else true) → g_G p l e rm_L_tells s m args below meth c D A 16 0 0 Q (wX2 x cI cJ cZ C N S Qk Z jC jN jS jQ jZ ++ wL y cI cJ C N S Qk) [(0, .ref (x 0)), (2, .int zv), (7, .ref (y 5)), (10, .ref (y 12)), (11, .int (nI b))] 309 [.int (bI v8)] := by
      intro v8 ev8
      refine g_istore X [(12, .int (bI v8)), (0, .ref (x 0)), (2, .int zv), (7, .ref (y 5)), (10, .ref (y 12)), (11, .int (nI b))] dL_tells_309 (Nat.le_of_ble_eq_true rfl) rfl ?_
      refine g_aload X 3 dL_tells_311 rfl ?_
      refine g_bipush X (v := nI 7) dL_tells_313 (by decide +kernel) ?_
      refine g_aload X 4 dL_tells_315 rfl ?_
      refine g_iconst X (v := nI 1) dL_tells_317 (by decide +kernel) ?_
      refine g_iald X 83 rfl (1) rfl (by omega) (Nat.le_of_ble_eq_true rfl) (v := nI (N 0)) rfl dL_tells_318 ?_
      refine g_imul X (v := nI (7 * (N 0))) dL_tells_319 (pk_mul _ _) ?_
      refine g_iload X 5 dL_tells_320 rfl ?_
      refine g_iload_n X 2 dL_tells_322 rfl rfl ?_
      refine g_iconst X (v := nI 5) dL_tells_323 (by decide +kernel) ?_
      refine g_ishr X (v := zv >>> ((nI 5) &&& 31)) dL_tells_324 rfl ?_
      refine g_iconst X (v := nI 2) dL_tells_325 (by decide +kernel) ?_
      have fl10 := lwN_lt (zv >>> ((nI 5) &&& 31)) (n := 2) (by omega)
      refine g_callS X (As := [.int (zv >>> ((nI 5) &&& 31)), .int (nI 2)]) (rest := [.int (nI b), .int (nI (7 * (N 0))), .ref (y 5)]) (m_L_low l D cI cJ cZ (zv >>> ((nI 5) &&& 31)) 2 (by omega) (by omega)) kM_L_114 kT_yL_low kZ_RL kC_yL_low hV_L_low rfl rfl rfl ⟨Nat.le_of_ble_eq_true rfl, Nat.le_of_ble_eq_true rfl⟩ ⟨Nat.le_of_ble_eq_true rfl, Nat.le_of_ble_eq_true rfl⟩ (Nat.le_of_ble_eq_true rfl) dL_tells_326 rfl [] rfl (by decide +kernel) (g_kk1 (w2 := wX2 x cI cJ cZ C N S Qk Z jC jN jS jQ jZ ++ wL y cI cJ C N S Qk) em0 ?_)
      have J13 : ∀ (v12 : Nat), v12 = (if ¬ (lwN (zv >>> ((nI 5) &&& 31)) 2) = 0 then 3 else 12) → g_G p l e rm_L_tells s m args below meth c D A 16 0 0 Q (wX2 x cI cJ cZ C N S Qk Z jC jN jS jQ jZ ++ wL y cI cJ C N S Qk) [(0, .ref (x 0)), (7, .ref (y 5)), (10, .ref (y 12)), (12, .int (bI v8))] 338 [.int (nI v12), .int (nI b), .int (nI (7 * (N 0))), .ref (y 5)] := by
        intro v12 ev12
        have bv12 : v12 < 2147483648 := by subst ev12; (repeat' split) <;> omega
        have hdv : v12 = 12 ∨ v12 = 3 := by subst ev12; split <;> simp
        refine g_irem X (v := nI (b % v12)) dL_tells_338 (fun z => absurd (congrArg Int32.toInt z) (by rw [nI_toInt (by omega)]; show ¬ (v12 : Int) = 0; omega)) (pk_rem (by omega) (by omega) (by omega)) ?_
        obtain ⟨p9, ep9⟩ : ∃ z : Nat, z = b % v12 := ⟨_, rfl⟩
        have hp9 : p9 < 12 := by rw [ep9]; exact Nat.lt_of_le_of_lt (Nat.mod_le _ _) hb
        refine g_st (st' := [.int (nI p9), .int (nI (7 * (N 0))), .ref (y 5)]) (by rw [ep9]; first | done | rfl) ?_
        obtain ⟨aC14, eaC14⟩ : ∃ z : Cf, z = c2 C 2 (N 0) (nI p9) := ⟨_, rfl⟩
        refine g_iast X (ws' := wX2 x cI cJ cZ C N S Qk Z jC jN jS jQ jZ ++ wL y cI cJ aC14 N S Qk) 76 rfl (7 * (N 0)) rfl (by omega) (Nat.le_of_ble_eq_true rfl) dL_tells_339 (by rw [eaC14]; first | done | (rw [lrE_w0]; rfl)) ?_
        refine g_aload X 1 dL_tells_340 rfl ?_
        refine g_bipush X (v := nI 7) dL_tells_342 (by decide +kernel) ?_
        refine g_aload X 2 dL_tells_344 rfl ?_
        refine g_iconst X (v := nI 1) dL_tells_346 (by decide +kernel) ?_
        refine g_iald X 83 rfl (1) rfl (by omega) (Nat.le_of_ble_eq_true rfl) (v := nI (N 0)) rfl dL_tells_347 ?_
        refine g_imul X (v := nI (7 * (N 0))) dL_tells_348 (pk_mul _ _) ?_
        refine g_iconst X (v := nI 1) dL_tells_349 (by decide +kernel) ?_
        refine g_iadd X (v := nI (7 * (N 0) + 1)) dL_tells_350 ((nI_add _ _).trans (congrArg nI (by omega))) ?_
        refine g_iload X 3 dL_tells_351 rfl ?_
        obtain ⟨aC15, eaC15⟩ : ∃ z : Cf, z = c2 aC14 3 (N 0) (bI v8) := ⟨_, rfl⟩
        refine g_iast X (ws' := wX2 x cI cJ cZ C N S Qk Z jC jN jS jQ jZ ++ wL y cI cJ aC15 N S Qk) 76 rfl (7 * (N 0) + 1) rfl (by omega) (Nat.le_of_ble_eq_true rfl) dL_tells_353 (by rw [eaC15]; first | done | (rw [lrE_w1]; rfl)) ?_
        refine g_aload X 2 dL_tells_354 rfl ?_
        refine g_iconst X (v := nI 1) dL_tells_356 (by decide +kernel) ?_
        refine g_dup2_11 X dL_tells_357 rfl rfl ?_
        refine g_iald X 83 rfl (1) rfl (by omega) (Nat.le_of_ble_eq_true rfl) (v := nI (N 0)) rfl dL_tells_358 ?_
        refine g_iconst X (v := nI 1) dL_tells_359 (by decide +kernel) ?_
        refine g_iadd X (v := nI (N 0 + 1)) dL_tells_360 ((nI_add _ _).trans (congrArg nI (by omega))) ?_
        obtain ⟨aS16, eaS16⟩ : ∃ z : St, z = u2 S 8 (N 0) (-1) := ⟨_, rfl⟩
        obtain ⟨aN17, eaN17⟩ : ∃ z : Nat → Nat, z = n2 N 0 (N 0 + 1) := ⟨_, rfl⟩
        refine g_iast X (ws' := wX2 x cI cJ cZ C N S Qk Z jC jN jS jQ jZ ++ wL y cI cJ aC15 aN17 aS16 Qk) 83 rfl (1) rfl (by omega) (Nat.le_of_ble_eq_true rfl) dL_tells_361 (by rw [eaN17]; first | done | (rw [eaS16, lrQ_w1]; unfold wL; rw [← lrE_new]; rfl)) ?_
        refine g_aload_n X 0 dL_tells_362 rfl rfl ?_
        refine g_aload X 1 dL_tells_363 rfl ?_
        refine g_bipush X (v := nI 7) dL_tells_365 (by decide +kernel) ?_
        refine g_aload X 2 dL_tells_367 rfl ?_
        refine g_iconst X (v := nI 1) dL_tells_369 (by decide +kernel) ?_
        refine g_iald X 83 rfl (1) rfl (by omega) (Nat.le_of_ble_eq_true rfl) (v := nI (N 0 + 1)) ((show _ = nI (aN17 0) from rfl).trans (by rw [eaN17]; rfl)) dL_tells_370 ?_
        refine g_imul X (v := nI (7 * (N 0 + 1))) dL_tells_371 (pk_mul _ _) ?_
        refine g_bipush X (v := nI 7) dL_tells_372 (by decide +kernel) ?_
        refine g_isub X (v := nI (7 * (N 0))) dL_tells_374 (by rw [pk_sub (by omega)]; exact congrArg nI (by omega)) ?_
        refine g_iald X 76 rfl (7 * (N 0)) rfl (by omega) (Nat.le_of_ble_eq_true rfl) (v := nI p9) ((show _ = aC15 2 (N 0) from (lrE_0 aC15 aN17 aS16 (N 0))).trans (by rw [eaC15, c2_ap, if_neg (by simp), eaC14, c2_ap, if_pos ⟨rfl, rfl⟩])) dL_tells_375 ?_
        refine g_iload X 3 dL_tells_376 rfl ?_
        refine g_iconst X (v := nI 1) dL_tells_378 (by decide +kernel) ?_
        have J20 : ∀ (v19 : Bool), v19 = (if ¬ (bI v8) = (nI 1) then false else true) → g_G p l e rm_L_tells s m args below meth c D A 16 0 0 Q (wX2 x cI cJ cZ C N S Qk Z jC jN jS jQ jZ ++ wL y cI cJ aC15 aN17 aS16 Qk) [(10, .ref (y 12))] 387 [.int (bI v19), .int (nI p9), .ref (x 0)] := by
          intro v19 ev19
          replace ev19 := ev19.trans (show _ = v8 from bI_1 _)
          refine g_st (st' := [.int (bI v8), .int (nI p9), .ref (x 0)]) (by rw [ev19]; first | done | rfl) ?_
          obtain ⟨C21, eC21⟩ : ∃ z : Cf, z = c2 (c2 C 2 (N 0) (nI p9)) 3 (N 0) (bI v8) := ⟨_, rfl⟩
          obtain ⟨N22, eN22⟩ : ∃ z : Nat → Nat, z = n2 N 0 (N 0 + 1) := ⟨_, rfl⟩
          obtain ⟨S23, eS23⟩ : ∃ z : St, z = u2 S 8 (N 0) (-1) := ⟨_, rfl⟩
          refine g_callV X (As := [.int (nI p9), .int (bI v8)]) (rest := []) (c_well l D cI cJ cZ x (x 36) C N S Qk Z p9 v8 hp9 (by omega) hC) kM_L_128 kI_yX6_well kS_yX6_well kZ_RX6 kC_yX6_well hV_X6_well rfl rfl rfl 0 rfl (ci := 6) rfl ⟨Nat.le_of_ble_eq_true rfl, Nat.le_of_ble_eq_true rfl⟩ ⟨Nat.le_of_ble_eq_true rfl, Nat.le_of_ble_eq_true rfl⟩ (Nat.le_of_ble_eq_true rfl) dL_tells_387 rfl (em_I 0 36 36 0) (em_C (by decide) (Nat.le_of_ble_eq_true rfl) rfl) (em_nd (by decide)) (g_kk1 (w2 := wX2 x cI cJ cZ C21 N22 S23 Qk Z jC jN jS jQ jZ ++ wL y cI cJ aC15 aN17 aS16 Qk) (by rw [eS23]; rw [eN22]; rw [eC21]; exact (em3 0 36 36 0 (by decide) (Nat.le_of_ble_eq_true rfl) rfl rfl rfl)) ?_)
          refine g_aload X 0 dL_tells_390 rfl ?_
          refine g_iconst X (v := nI 1) dL_tells_392 (by decide +kernel) ?_
          refine g_iald X 83 rfl (1) rfl (by omega) (Nat.le_of_ble_eq_true rfl) (v := nI (N 0 + 1)) ((show _ = nI (aN17 0) from rfl).trans (by rw [eaN17]; rfl)) dL_tells_393 ?_
          refine g_iconst X (v := nI 1) dL_tells_394 (by decide +kernel) ?_
          refine g_isub X (v := nI ((N 0 + 1) - 1)) dL_tells_395 (pk_sub (by omega)) ?_
          refine g_icN_ne X (a := (N 0)) (b := ((N 0 + 1) - 1)) (tgt := 403) (by omega) (by omega) dL_tells_396 (by decide) (fun h24 => absurd (by omega) h24) (fun h24 => ?_)
          refine g_iconst X (v := nI 1) dL_tells_399 (by decide +kernel) ?_
          refine g_goto X (tgt := 404) dL_tells_400 (by decide) ?_
          refine g_zret X hr hlk hQ (by decide +kernel) dL_tells_404 ⟨rfl, C21, N22, S23, ?_, ?_, ?_⟩
          · rw [eS23, eN22, eC21]; exact LV_well p9 v8 hL hm hp9 (by omega)
          · rw [eN22]; refine ⟨?_, ?_, ?_⟩ <;> first | exact Nat.le_refl _ | exact Nat.le_succ _
          · rw [(show aC15 = C21 from by (repeat (first | rw [eaN17] | rw [eaS16] | rw [eaC15] | rw [eaC14] | rw [eS23] | rw [eN22] | rw [eC21])); first | done | rfl), (show aN17 = N22 from by (repeat (first | rw [eaN17] | rw [eaS16] | rw [eaC15] | rw [eaC14] | rw [eS23] | rw [eN22] | rw [eC21])); first | done | rfl), (show aS16 = S23 from by (repeat (first | rw [eaN17] | rw [eaS16] | rw [eaC15] | rw [eaC14] | rw [eS23] | rw [eN22] | rw [eC21])); first | done | rfl)]
        refine g_icmp_ne X (tgt := 386) dL_tells_379 (by decide) (fun h18 => ?_) (fun h18 => ?_)
        · --
          refine g_iconst X (v := nI 0) dL_tells_386 (by decide +kernel) ?_
          refine g_lv _ [2] rfl ?_
          exact J20 _ (by rw [if_pos (c := ¬ (bI v8) = (nI 1)) h18])
        · --
          refine g_iconst X (v := nI 1) dL_tells_382 (by decide +kernel) ?_
          refine g_goto X (tgt := 387) dL_tells_383 (by decide) ?_
          refine g_lv _ [2] rfl ?_
          exact J20 _ (by rw [if_neg (c := ¬ (bI v8) = (nI 1)) (fun z => z h18)])
      refine g_iN_ne X (a := (lwN (zv >>> ((nI 5) &&& 31)) 2)) (tgt := 337) (by omega) dL_tells_329 (by decide) (fun h11 => ?_) (fun h11 => ?_)
      · --
        refine g_iconst X (v := nI 3) dL_tells_337 (by decide +kernel) ?_
        refine g_lv _ [1, 3, 4, 0] rfl ?_
        exact J13 _ (by rw [if_pos (c := ¬ (lwN (zv >>> ((nI 5) &&& 31)) 2) = 0) h11])
      · --
        refine g_bipush X (v := nI 12) dL_tells_332 (by decide +kernel) ?_
        refine g_goto X (tgt := 338) dL_tells_334 (by decide) ?_
        refine g_lv _ [1, 3, 4, 0] rfl ?_
        exact J13 _ (by rw [if_neg (c := ¬ (lwN (zv >>> ((nI 5) &&& 31)) 2) = 0) (fun z => z h11)])
    refine g_iN_ne X (a := (lwN (zv >>> ((nI 4) &&& 31)) 3)) (tgt := 308) (by omega) dL_tells_301 (by decide) (fun h7 => ?_) (fun h7 => ?_)
    · --
      refine g_iconst X (v := nI 0) dL_tells_308 (by decide +kernel) ?_
      refine g_lv _ [0, 2, 7, 10, 11] rfl ?_
      exact J9 _ (by rw [if_pos (c := ¬ (lwN (zv >>> ((nI 4) &&& 31)) 3) = 0) h7])
    · --
      refine g_iconst X (v := nI 1) dL_tells_304 (by decide +kernel) ?_
      refine g_goto X (tgt := 309) dL_tells_305 (by decide) ?_
      refine g_lv _ [0, 2, 7, 10, 11] rfl ?_
      exact J9 _ (by rw [if_neg (c := ¬ (lwN (zv >>> ((nI 4) &&& 31)) 3) = 0) (fun z => z h7)])
  · --
    refine g_iconst X (v := nI 1) dL_tells_292 (by decide +kernel) ?_
    refine g_zret X hr hlk hQ (by decide +kernel) dL_tells_293 ⟨rfl, C, N, S, ?_, ?_, ?_⟩
    · exact hL
    · exact ⟨Nat.le_refl _, Nat.le_refl _, Nat.le_refl _⟩
    · rfl
