set_option maxRecDepth 100000 in
set_option maxHeartbeats 4000000 in
theorem n_law_loop (l : Launch) (D : va_G) (cI cJ cZ : ClassId) (x y : Nat → Nat) (b : Nat) {p : Program} {e : Env} {s : State} {m : MethodId} {args : Array Value} {below : List Frame} {meth : Method} {c : Code} {A : Nat → Prop} (X : g_Cx p s m args c D A 25 cL_law RL cI cJ cZ) {Q : State → Prop} (L : Nat) (xs : Nat → Int32) (hXs : va_X b L xs s s.heap) (hbl : b < s.heap.size) (hbA : ¬ A b) (hL9 : L ≤ 260) (hEnd : ∀ (kc ks : Nat) (ws : va_W) (lv : List (Nat × Value)), kc ≤ 600130 → ks ≤ 7301080 → g_G p l e room_1 s m args below meth c D A 25 kc ks Q ws lv 525 [.int (nI 1)]) : ∀ (r0 tn kc ks : Nat) (C : Cf) (N : Nat → Nat) (S : St) (Qk : Nat → Int64) (Z : St) (jC : Cf) (jN : Nat → Nat) (jS : St) (jQ : Nat → Int64) (jZ : St) (mo : Nat), tn + r0 = 60 → LV C N S mo → ZB jC jN jS → (jN 0 ≤ N 0 ∧ jN 1 ≤ N 1 ∧ jN 2 ≤ N 2) → mo ≤ 9 * tn → kc + 27 * r0 ≤ 600130 → ks + 324 * r0 ≤ 7301080 → g_G p l e room_1 s m args below meth c D A 25 kc ks Q (wX2 x cI cJ cZ C N S Qk Z jC jN jS jQ jZ ++ wL y cI cJ C N S Qk) [(0, .ref b), (1, .ref (x 0)), (2, .ref (y 0)), (3, .ref (y 1)), (4, .ref (y 2)), (5, .ref (y 3)), (6, .ref (y 4)), (7, .ref (y 5)), (8, .ref (y 6)), (9, .ref (y 7)), (10, .ref (y 8)), (11, .ref (y 9)), (12, .ref (y 10)), (13, .ref (y 11)), (14, .ref (y 12)), (15, .int (nI 1)), (16, .int (nI tn))] 140 [] := by
  intro r0
  induction r0 with
  | zero =>
    intro tn kc ks C N S Qk Z jC jN jS jQ jZ mo htn hL hZ hj hmo hkc hks
    refine g_iload X 16 dL_law_140 rfl ?_
    refine g_bipush X (v := nI 60) dL_law_142 (by decide +kernel) ?_
    refine g_icN_ge X (a := tn) (b := 60) (tgt := 523) (by omega) (by omega) dL_law_144 (by decide) (fun h => ?_) (fun h => absurd (by omega) h)
    refine g_iload X 15 dL_law_523 rfl ?_
    exact hEnd _ _ _ _ (by omega) (by omega)
  | succ r0 ih =>
    intro tn kc ks C N S Qk Z jC jN jS jQ jZ mo htn hL hZ hj hmo hkc hks
    obtain ⟨hC, hR, hX9, h3, hZB, hWk, hE, h13, hq, hB, h10⟩ := hL.1
    have hI := hL.1.mons (by omega)
    refine g_iload X 16 dL_law_140 rfl ?_
    refine g_bipush X (v := nI 60) dL_law_142 (by decide +kernel) ?_
    refine g_icN_ge X (a := tn) (b := 60) (tgt := 523) (by omega) (by omega) dL_law_144 (by decide) (fun h1 => absurd h1 (by omega)) (fun h1 => ?_)
    refine g_iload X 15 dL_law_147 rfl ?_
    refine g_iN_eq X (a := 1) (tgt := 523) (by omega) dL_law_149 (by decide) (fun h2 => absurd h2 (by decide)) (fun h2 => ?_)
    refine g_aload_n X 0 dL_law_152 rfl rfl ?_
    refine g_iload X 16 dL_law_153 rfl ?_
    refine g_callSS X hXs hbl hbA (As := [.ref b, .int (nI tn)]) (rest := []) (m_L_cell l D cI cJ cZ b L xs tn (by omega) hL9) kM_L_156 kT_yL_cell kZ_RL kC_yL_cell hV_L_cell rfl rfl rfl ⟨Nat.le_of_ble_eq_true rfl, Nat.le_of_ble_eq_true rfl⟩ (show _ ≤ 600130 ∧ _ ≤ 7301080 by omega) (Nat.le_of_ble_eq_true rfl) dL_law_155 rfl (fun v9 w9 hv9 => ?_)
    obtain ⟨rfl, rfl⟩ := hv9
    refine ⟨wX2 x cI cJ cZ C N S Qk Z jC jN jS jQ jZ ++ wL y cI cJ C N S Qk, em0, ?_⟩
    obtain ⟨v9, ev9⟩ : ∃ z : Int32, z = clI xs L tn := ⟨_, rfl⟩
    refine g_st (st' := [.int v9]) (by rw [ev9]; first | done | rfl) ?_
    refine g_istore X [(17, .int v9), (0, .ref b), (1, .ref (x 0)), (2, .ref (y 0)), (3, .ref (y 1)), (4, .ref (y 2)), (5, .ref (y 3)), (6, .ref (y 4)), (7, .ref (y 5)), (8, .ref (y 6)), (9, .ref (y 7)), (10, .ref (y 8)), (11, .ref (y 9)), (12, .ref (y 10)), (13, .ref (y 11)), (14, .ref (y 12)), (15, .int (nI 1)), (16, .int (nI tn))] dL_law_158 (Nat.le_of_ble_eq_true rfl) rfl ?_
    have flA := lwN_lt v9 (n := 18) (by decide)
    have flB := lwN_lt v9 (n := 27) (by decide)
    refine g_iload X 17 dL_law_160 rfl ?_
    refine g_bipush X (v := nI 8) dL_law_162 (by decide +kernel) ?_
    have J7 : ∀ (v6 : Nat), v6 = (if 8 ≤ tn then lwN v9 27 else lwN v9 18) → g_G p l e room_1 s m args below meth c D A 25 kc ks Q (wX2 x cI cJ cZ C N S Qk Z jC jN jS jQ jZ ++ wL y cI cJ C N S Qk) [(0, .ref b), (1, .ref (x 0)), (2, .ref (y 0)), (3, .ref (y 1)), (4, .ref (y 2)), (5, .ref (y 3)), (6, .ref (y 4)), (7, .ref (y 5)), (8, .ref (y 6)), (9, .ref (y 7)), (10, .ref (y 8)), (11, .ref (y 9)), (12, .ref (y 10)), (13, .ref (y 11)), (14, .ref (y 12)), (16, .int (nI tn)), (17, .int v9)] 184 [.int (nI v6)] := by
      intro v6 ev6
      have bv6 : v6 < 2147483648 := by subst ev6; (repeat' split) <;> omega
      have hac : v6 < 27 := by subst ev6; split <;> omega
      refine g_istore X [(18, .int (nI v6)), (0, .ref b), (1, .ref (x 0)), (2, .ref (y 0)), (3, .ref (y 1)), (4, .ref (y 2)), (5, .ref (y 3)), (6, .ref (y 4)), (7, .ref (y 5)), (8, .ref (y 6)), (9, .ref (y 7)), (10, .ref (y 8)), (11, .ref (y 9)), (12, .ref (y 10)), (13, .ref (y 11)), (14, .ref (y 12)), (16, .int (nI tn)), (17, .int v9)] dL_law_184 (Nat.le_of_ble_eq_true rfl) rfl ?_
      refine g_iload X 17 dL_law_186 rfl ?_
      refine g_iconst X (v := nI 5) dL_law_188 (by decide +kernel) ?_
      refine g_ishr X (v := v9 >>> ((nI 5) &&& 31)) dL_law_189 rfl ?_
      obtain ⟨zv, ezv⟩ : ∃ z : Int32, z = v9 >>> ((nI 5) &&& 31) := ⟨_, rfl⟩
      refine g_st (st' := [.int zv]) (by rw [ezv]; first | done | rfl) ?_
      refine g_istore X [(19, .int zv), (18, .int (nI v6)), (0, .ref b), (1, .ref (x 0)), (2, .ref (y 0)), (3, .ref (y 1)), (4, .ref (y 2)), (5, .ref (y 3)), (6, .ref (y 4)), (7, .ref (y 5)), (8, .ref (y 6)), (9, .ref (y 7)), (10, .ref (y 8)), (11, .ref (y 9)), (12, .ref (y 10)), (13, .ref (y 11)), (14, .ref (y 12)), (16, .int (nI tn)), (17, .int v9)] dL_law_190 (Nat.le_of_ble_eq_true rfl) rfl ?_
      refine g_iload X 1 dL_law_192 rfl ?_
      refine g_bipush X (v := nI 18) dL_law_194 (by decide +kernel) ?_
      refine g_icN_ge X (a := v6) (b := 18) (tgt := 325) (by omega) (by omega) dL_law_196 (by decide) (fun h8 => ?_) (fun h8 => ?_)
      · --
        refine g_iconst X (v := nI 1) dL_law_325 (by decide +kernel) ?_
        refine g_iload X 0 dL_law_326 rfl ?_
        refine g_iload X 0 dL_law_328 rfl ?_
        refine g_iconst X (v := nI 4) dL_law_330 (by decide +kernel) ?_
        refine g_ishr X (v := zv >>> ((nI 4) &&& 31)) dL_law_331 rfl ?_
        refine g_iconst X (v := nI 4) dL_law_332 (by decide +kernel) ?_
        have fl9 := lwN_lt (zv >>> ((nI 4) &&& 31)) (n := 4) (by omega)
        refine g_callS X (As := [.int (zv >>> ((nI 4) &&& 31)), .int (nI 4)]) (rest := [.int zv, .int (nI 1)]) (m_L_low l D cI cJ cZ (zv >>> ((nI 4) &&& 31)) 4 (by omega) (by omega)) kM_L_114 kT_yL_low kZ_RL kC_yL_low hV_L_low rfl rfl rfl ⟨Nat.le_of_ble_eq_true rfl, Nat.le_of_ble_eq_true rfl⟩ (show _ ≤ 600130 ∧ _ ≤ 7301080 by omega) (Nat.le_of_ble_eq_true rfl) dL_law_333 rfl [] rfl (by decide +kernel) (g_kk1 (w2 := wX2 x cI cJ cZ C N S Qk Z jC jN jS jQ jZ ++ wL y cI cJ C N S Qk) em0 ?_)
        have J12 : ∀ (v11 : Nat), v11 = (if ¬ (lwN (zv >>> ((nI 4) &&& 31)) 4) = 0 then 3 else 9) → g_G p l e room_1 s m args below meth c D A 25 kc ks Q (wX2 x cI cJ cZ C N S Qk Z jC jN jS jQ jZ ++ wL y cI cJ C N S Qk) [(0, .ref b), (1, .ref (x 0)), (2, .ref (y 0)), (3, .ref (y 1)), (4, .ref (y 2)), (5, .ref (y 3)), (6, .ref (y 4)), (7, .ref (y 5)), (8, .ref (y 6)), (9, .ref (y 7)), (10, .ref (y 8)), (11, .ref (y 9)), (12, .ref (y 10)), (13, .ref (y 11)), (14, .ref (y 12)), (16, .int (nI tn)), (19, .int zv)] 345 [.int (nI v11), .int zv, .int (nI 1)] := by
          intro v11 ev11
          have bv11 : v11 < 2147483648 := by subst ev11; (repeat' split) <;> omega
          have hdd : 0 < v11 ∧ v11 ≤ 9 := by subst ev11; split <;> omega
          have fl13 := lwN_lt (zv) (n := v11) (by omega)
          refine g_callS X (As := [.int zv, .int (nI v11)]) (rest := [.int (nI 1)]) (m_L_low l D cI cJ cZ zv v11 hdd.1 (by omega)) kM_L_114 kT_yL_low kZ_RL kC_yL_low hV_L_low rfl rfl rfl ⟨Nat.le_of_ble_eq_true rfl, Nat.le_of_ble_eq_true rfl⟩ (show _ ≤ 600130 ∧ _ ≤ 7301080 by omega) (Nat.le_of_ble_eq_true rfl) dL_law_345 rfl [] rfl (by decide +kernel) (g_kk1 (w2 := wX2 x cI cJ cZ C N S Qk Z jC jN jS jQ jZ ++ wL y cI cJ C N S Qk) em0 ?_)
          refine g_iadd X (v := nI (lwN zv v11 + 1)) dL_law_348 ((nI_add _ _).trans (congrArg nI (by omega))) ?_
          obtain ⟨k9, ek9⟩ : ∃ z : Nat, z = lwN zv v11 + 1 := ⟨_, rfl⟩
          refine g_st (st' := [.int (nI k9)]) (by rw [ek9]; first | done | rfl) ?_
          have hk9 : 1 ≤ k9 ∧ k9 ≤ 9 := by omega
          refine g_istore X [(20, .int (nI k9)), (0, .ref b), (1, .ref (x 0)), (2, .ref (y 0)), (3, .ref (y 1)), (4, .ref (y 2)), (5, .ref (y 3)), (6, .ref (y 4)), (7, .ref (y 5)), (8, .ref (y 6)), (9, .ref (y 7)), (10, .ref (y 8)), (11, .ref (y 9)), (12, .ref (y 10)), (13, .ref (y 11)), (14, .ref (y 12)), (16, .int (nI tn)), (19, .int zv)] dL_law_349 (Nat.le_of_ble_eq_true rfl) rfl ?_
          refine g_iload X 17 dL_law_351 rfl ?_
          refine g_iconst X (v := nI 2) dL_law_353 (by decide +kernel) ?_
          refine g_ishr X (v := zv >>> ((nI 2) &&& 31)) dL_law_354 rfl ?_
          refine g_bipush X (v := nI 12) dL_law_355 (by decide +kernel) ?_
          have fl14 := lwN_lt (zv >>> ((nI 2) &&& 31)) (n := 12) (by omega)
          refine g_callS X (As := [.int (zv >>> ((nI 2) &&& 31)), .int (nI 12)]) (rest := []) (m_L_low l D cI cJ cZ (zv >>> ((nI 2) &&& 31)) 12 (by omega) (by omega)) kM_L_114 kT_yL_low kZ_RL kC_yL_low hV_L_low rfl rfl rfl ⟨Nat.le_of_ble_eq_true rfl, Nat.le_of_ble_eq_true rfl⟩ (show _ ≤ 600130 ∧ _ ≤ 7301080 by omega) (Nat.le_of_ble_eq_true rfl) dL_law_357 rfl [] rfl (by decide +kernel) (g_kk1 (w2 := wX2 x cI cJ cZ C N S Qk Z jC jN jS jQ jZ ++ wL y cI cJ C N S Qk) em0 ?_)
          obtain ⟨b9, eb9⟩ : ∃ z : Nat, z = lwN (zv >>> ((nI 2) &&& 31)) 12 := ⟨_, rfl⟩
          have hb9 : b9 < 12 := by rw [eb9]; exact lwN_lt _ (by omega)
          refine g_st (st' := [.int (nI b9)]) (by rw [eb9]; first | done | rfl) ?_
          refine g_istore X [(21, .int (nI b9)), (20, .int (nI k9)), (0, .ref b), (1, .ref (x 0)), (2, .ref (y 0)), (3, .ref (y 1)), (4, .ref (y 2)), (5, .ref (y 3)), (6, .ref (y 4)), (7, .ref (y 5)), (8, .ref (y 6)), (9, .ref (y 7)), (10, .ref (y 8)), (11, .ref (y 9)), (12, .ref (y 10)), (13, .ref (y 11)), (14, .ref (y 12)), (16, .int (nI tn)), (19, .int zv)] dL_law_360 (Nat.le_of_ble_eq_true rfl) rfl ?_
          refine g_aload_n X 3 dL_law_362 rfl rfl ?_
          refine g_iload X 1 dL_law_363 rfl ?_
          refine g_iload X 0 dL_law_365 rfl ?_
          refine g_iconst X (v := nI 2) dL_law_367 (by decide +kernel) ?_
          obtain ⟨lC15, elC15⟩ : ∃ z : Cf, z = C := ⟨_, rfl⟩
          obtain ⟨lN16, elN16⟩ : ∃ z : Nat → Nat, z = N := ⟨_, rfl⟩
          obtain ⟨lS17, elS17⟩ : ∃ z : St, z = (mnS C N S k9) := ⟨_, rfl⟩
          obtain ⟨lQk18, elQk18⟩ : ∃ z : Nat → Int64, z = (mnQ C N S (cpQ Qk jQ (if 60 < qN S then 60 else qN S)) k9) := ⟨_, rfl⟩
          obtain ⟨lX19, elX19⟩ : ∃ z : St, z = (mnZ C N S jZ k9) := ⟨_, rfl⟩
          refine g_callV X (As := [.int (nI k9), .int (nI b9), .int (nI 2)]) (rest := []) (c_would l D cI cJ cZ x C N S Qk Z jC jN jS jQ jZ k9 b9 2 (by omega) hb9 (by decide) hC hR hX9 hI h3 hZ hZB hj.1 hj.2.1 hj.2.2) kM_L_164 kI_yX6_would kS_yX6_would kZ_RX6 kC_yX6_would hV_X6_would rfl rfl rfl 0 rfl (ci := 6) rfl ⟨Nat.le_of_ble_eq_true rfl, Nat.le_of_ble_eq_true rfl⟩ (show _ ≤ 600130 ∧ _ ≤ 7301080 by omega) (Nat.le_of_ble_eq_true rfl) dL_law_368 rfl (em_I 0 71 71 0) (em_C (by decide) (Nat.le_of_ble_eq_true rfl) rfl) (em_nd (by decide)) (g_kk1 (w2 := wX2 x cI cJ cZ C N S Qk Z lC15 lN16 lS17 lQk18 lX19 ++ wL y cI cJ C N S Qk) (by rw [elX19]; rw [elQk18]; rw [elS17]; rw [elN16]; rw [elC15]; exact (em3 0 71 71 0 (by decide) (Nat.le_of_ble_eq_true rfl) rfl rfl rfl)) ?_)
          obtain ⟨x20, ex20⟩ : ∃ z : Int64, z = tellG (mnS C N S k9) b9 2 := ⟨_, rfl⟩
          refine g_st (st' := [.long x20]) (by rw [ex20]; first | done | rfl) ?_
          refine g_lstore X [(22, .long x20), (21, .int (nI b9)), (20, .int (nI k9)), (0, .ref b), (1, .ref (x 0)), (2, .ref (y 0)), (3, .ref (y 1)), (4, .ref (y 2)), (5, .ref (y 3)), (6, .ref (y 4)), (7, .ref (y 5)), (8, .ref (y 6)), (9, .ref (y 7)), (10, .ref (y 8)), (11, .ref (y 9)), (12, .ref (y 10)), (13, .ref (y 11)), (14, .ref (y 12)), (16, .int (nI tn)), (19, .int zv)] dL_law_371 (Nat.le_of_ble_eq_true rfl) rfl ?_
          refine g_iconst X (v := nI 0) dL_law_373 (by decide +kernel) ?_
          refine g_istore X [(24, .int (nI 0)), (22, .long x20), (21, .int (nI b9)), (20, .int (nI k9)), (0, .ref b), (1, .ref (x 0)), (2, .ref (y 0)), (3, .ref (y 1)), (4, .ref (y 2)), (5, .ref (y 3)), (6, .ref (y 4)), (7, .ref (y 5)), (8, .ref (y 6)), (9, .ref (y 7)), (10, .ref (y 8)), (11, .ref (y 9)), (12, .ref (y 10)), (13, .ref (y 11)), (14, .ref (y 12)), (16, .int (nI tn)), (19, .int zv)] dL_law_374 (Nat.le_of_ble_eq_true rfl) rfl ?_
          refine g_lv [(0, .ref b), (1, .ref (x 0)), (2, .ref (y 0)), (3, .ref (y 1)), (4, .ref (y 2)), (5, .ref (y 3)), (6, .ref (y 4)), (7, .ref (y 5)), (8, .ref (y 6)), (9, .ref (y 7)), (10, .ref (y 8)), (11, .ref (y 9)), (12, .ref (y 10)), (13, .ref (y 11)), (14, .ref (y 12)), (16, .int (nI tn)), (19, .int zv), (20, .int (nI k9)), (21, .int (nI b9)), (22, .long x20), (24, .int (nI 0))] [4, 5, 6, 7, 8, 9, 10, 11, 12, 13, 14, 15, 16, 17, 18, 19, 20, 3, 2, 1, 0] rfl ?_
          rw [elC15, elN16]
          have kk : ∀ (C : Cf) (N : Nat → Nat) (S : St) (Qk : Nat → Int64) (Z : St) (jC : Cf) (jN : Nat → Nat) (jS : St) (jQ : Nat → Int64) (jZ : St) (mo2 kc2 ks2 : Nat), LV C N S mo2 → ZB jC jN jS → (jN 0 ≤ N 0 ∧ jN 1 ≤ N 1 ∧ jN 2 ≤ N 2) → mo2 ≤ mo + 9 → kc2 ≤ (kc + 27) → ks2 ≤ (ks + 324) → g_G p l e room_1 s m args below meth c D A 25 kc2 ks2 Q (wX2 x cI cJ cZ C N S Qk Z jC jN jS jQ jZ ++ wL y cI cJ C N S Qk) [(0, .ref b), (1, .ref (x 0)), (2, .ref (y 0)), (3, .ref (y 1)), (4, .ref (y 2)), (5, .ref (y 3)), (6, .ref (y 4)), (7, .ref (y 5)), (8, .ref (y 6)), (9, .ref (y 7)), (10, .ref (y 8)), (11, .ref (y 9)), (12, .ref (y 10)), (13, .ref (y 11)), (14, .ref (y 12)), (15, .int (nI 1)), (16, .int (nI tn)), (19, .int zv)] 471 [] := by
            intro C N S Qk Z jC jN jS jQ jZ mo2 kc2 ks2 hL2 hZ2 hj2 hm2 hk2 hs2
            refine n_law_tail l D cI cJ cZ x y b X C N S Qk Z jC jN jS jQ jZ zv tn (by omega) mo2 (by omega) hL2 kc2 ks2 (by omega) (by omega) ?_
            exact ih (tn + 1) kc2 ks2 C N S Qk Z jC jN jS jQ jZ mo2 (by omega) hL2 hZ2 hj2 (by omega) (by omega) (by omega)
          exact n_law_months l D cI cJ cZ x y b X C N S Qk Z lS17 lQk18 lX19 (by rw [elS17]; exact (mns_LV hL k9 (by omega)).1.2.2.2.2.1) zv tn k9 b9 x20 hb9 hk9.1 hk9.2 ex20 mo (kc + 27) (ks + 324) (by omega) hL (by omega) (by omega) kk k9 0 kc ks S Qk (by omega) rfl rfl (by omega) (by omega)
        refine g_iN_ne X (a := (lwN (zv >>> ((nI 4) &&& 31)) 4)) (tgt := 344) (by omega) dL_law_336 (by decide) (fun h10 => ?_) (fun h10 => ?_)
        · --
          refine g_iconst X (v := nI 3) dL_law_344 (by decide +kernel) ?_
          refine g_lv _ [2, 3, 4, 5, 6, 7, 8, 9, 10, 11, 12, 13, 14, 15, 16, 17, 0] rfl ?_
          exact J12 _ (by rw [if_pos (c := ¬ (lwN (zv >>> ((nI 4) &&& 31)) 4) = 0) h10])
        · --
          refine g_bipush X (v := nI 9) dL_law_339 (by decide +kernel) ?_
          refine g_goto X (tgt := 345) dL_law_341 (by decide) ?_
          refine g_lv _ [2, 3, 4, 5, 6, 7, 8, 9, 10, 11, 12, 13, 14, 15, 16, 17, 0] rfl ?_
          exact J12 _ (by rw [if_neg (c := ¬ (lwN (zv >>> ((nI 4) &&& 31)) 4) = 0) (fun z => z h10)])
      · --
        refine g_lv [(0, .ref b), (1, .ref (x 0)), (2, .ref (y 0)), (3, .ref (y 1)), (4, .ref (y 2)), (5, .ref (y 3)), (6, .ref (y 4)), (7, .ref (y 5)), (8, .ref (y 6)), (9, .ref (y 7)), (10, .ref (y 8)), (11, .ref (y 9)), (12, .ref (y 10)), (13, .ref (y 11)), (14, .ref (y 12)), (16, .int (nI tn)), (18, .int (nI v6)), (19, .int zv)] [2, 3, 4, 5, 6, 7, 8, 9, 10, 11, 12, 13, 14, 15, 16, 17, 1, 0] rfl ?_
        refine n_law_tells l D cI cJ cZ x y b X C N S Qk Z jC jN jS jQ jZ zv tn v6 (by omega) mo (by omega) hL kc ks (by omega) (by omega) (fun C2 N2 S2 hL2 hle => ?_)
        refine n_law_tail l D cI cJ cZ x y b X C2 N2 S2 Qk Z jC jN jS jQ jZ zv tn (by omega) mo (by omega) hL2 kc ks (by omega) (by omega) ?_
        exact ih (tn + 1) kc ks C2 N2 S2 Qk Z jC jN jS jQ jZ mo (by omega) hL2 hZ ⟨Nat.le_trans hj.1 hle.1, Nat.le_trans hj.2.1 hle.2.1, Nat.le_trans hj.2.2 hle.2.2⟩ (by omega) (by omega) (by omega)
    refine g_icN_ge X (a := tn) (b := 8) (tgt := 177) (by omega) (by omega) dL_law_164 (by decide) (fun h3 => ?_) (fun h3 => ?_)
    · --
      refine g_iload X 0 dL_law_177 rfl ?_
      refine g_bipush X (v := nI 27) dL_law_179 (by decide +kernel) ?_
      have fl4 := lwN_lt (v9) (n := 27) (by omega)
      refine g_callS X (As := [.int v9, .int (nI 27)]) (rest := []) (m_L_low l D cI cJ cZ v9 27 (by omega) (by omega)) kM_L_114 kT_yL_low kZ_RL kC_yL_low hV_L_low rfl rfl rfl ⟨Nat.le_of_ble_eq_true rfl, Nat.le_of_ble_eq_true rfl⟩ (show _ ≤ 600130 ∧ _ ≤ 7301080 by omega) (Nat.le_of_ble_eq_true rfl) dL_law_181 rfl [] rfl (by decide +kernel) (g_kk1 (w2 := wX2 x cI cJ cZ C N S Qk Z jC jN jS jQ jZ ++ wL y cI cJ C N S Qk) em0 ?_)
      refine g_lv _ [1, 2, 3, 4, 5, 6, 7, 8, 9, 10, 11, 12, 13, 14, 15, 17, 0] rfl ?_
      exact J7 _ (by rw [if_pos (c := 8 ≤ tn) h3])
    · --
      refine g_iload X 0 dL_law_167 rfl ?_
      refine g_bipush X (v := nI 18) dL_law_169 (by decide +kernel) ?_
      have fl5 := lwN_lt (v9) (n := 18) (by omega)
      refine g_callS X (As := [.int v9, .int (nI 18)]) (rest := []) (m_L_low l D cI cJ cZ v9 18 (by omega) (by omega)) kM_L_114 kT_yL_low kZ_RL kC_yL_low hV_L_low rfl rfl rfl ⟨Nat.le_of_ble_eq_true rfl, Nat.le_of_ble_eq_true rfl⟩ (show _ ≤ 600130 ∧ _ ≤ 7301080 by omega) (Nat.le_of_ble_eq_true rfl) dL_law_171 rfl [] rfl (by decide +kernel) (g_kk1 (w2 := wX2 x cI cJ cZ C N S Qk Z jC jN jS jQ jZ ++ wL y cI cJ C N S Qk) em0 ?_)
      refine g_goto X (tgt := 184) dL_law_174 (by decide) ?_
      refine g_lv _ [1, 2, 3, 4, 5, 6, 7, 8, 9, 10, 11, 12, 13, 14, 15, 17, 0] rfl ?_
      exact J7 _ (by rw [if_neg (c := 8 ≤ tn) h3])
set_option maxRecDepth 100000 in
set_option maxHeartbeats 4000000 in
theorem n_law_fill (l : Launch) (D : va_G) (cI cJ cZ : ClassId) (x y : Nat → Nat) (b : Nat) {p : Program} {e : Env} {s : State} {m : MethodId} {args : Array Value} {below : List Frame} {meth : Method} {c : Code} {A : Nat → Prop} (X : g_Cx p s m args c D A 25 cL_law RL cI cJ cZ) {Q : State → Prop} (kc ks : Nat) (hkc : kc ≤ 600130) (hks : ks ≤ 7301080) (kk : g_G p l e room_1 s m args below meth c D A 25 kc ks Q (wX2 x cI cJ cZ iC zN iS zQ zS iC zN iS zQ zS ++ wL y cI cJ iC zN iS zQ) [(0, .ref b), (1, .ref (x 0)), (2, .ref (y 0)), (3, .ref (y 1)), (4, .ref (y 2)), (5, .ref (y 3)), (6, .ref (y 4)), (7, .ref (y 5)), (8, .ref (y 6)), (9, .ref (y 7)), (10, .ref (y 8)), (11, .ref (y 9)), (12, .ref (y 10)), (13, .ref (y 11)), (14, .ref (y 12)), (15, .int (nI 1)), (16, .int (nI 0))] 140 []) : g_G p l e room_1 s m args below meth c D A 25 kc ks Q (wX2 x cI cJ cZ iC zN iS zQ zS iC zN iS zQ zS ++ wL y cI cJ zC zN zS zQ) [(0, .ref b), (1, .ref (x 0)), (2, .ref (y 0)), (3, .ref (y 1)), (4, .ref (y 2)), (5, .ref (y 3)), (6, .ref (y 4)), (7, .ref (y 5)), (8, .ref (y 6)), (9, .ref (y 7)), (10, .ref (y 8)), (11, .ref (y 9)), (12, .ref (y 10)), (13, .ref (y 11)), (14, .ref (y 12))] 84 [] := by
  refine g_iconst X (v := nI 0) dL_law_84 (by decide +kernel) ?_
  refine g_istore X [(15, .int (nI 0)), (0, .ref b), (1, .ref (x 0)), (2, .ref (y 0)), (3, .ref (y 1)), (4, .ref (y 2)), (5, .ref (y 3)), (6, .ref (y 4)), (7, .ref (y 5)), (8, .ref (y 6)), (9, .ref (y 7)), (10, .ref (y 8)), (11, .ref (y 9)), (12, .ref (y 10)), (13, .ref (y 11)), (14, .ref (y 12))] dL_law_85 (Nat.le_of_ble_eq_true rfl) rfl ?_
  have L1 : ∀ (n3 i2 : Nat) (aC4 : Cf) (aS5 : St), i2 + n3 = 12 → aC4 = itr iCs zC i2 → aS5 = itr iSs zS i2 → g_G p l e room_1 s m args below meth c D A 25 kc ks Q (wX2 x cI cJ cZ iC zN iS zQ zS iC zN iS zQ zS ++ wL y cI cJ aC4 zN aS5 zQ) [(0, .ref b), (1, .ref (x 0)), (2, .ref (y 0)), (3, .ref (y 1)), (4, .ref (y 2)), (5, .ref (y 3)), (6, .ref (y 4)), (7, .ref (y 5)), (8, .ref (y 6)), (9, .ref (y 7)), (10, .ref (y 8)), (11, .ref (y 9)), (12, .ref (y 10)), (13, .ref (y 11)), (14, .ref (y 12)), (15, .int (nI i2))] 87 [] := by
    intro n3
    induction n3 with
    | zero =>
      intro i2 aC4 aS5 hi6 eaC4 eaS5
      obtain rfl : i2 = 12 := by omega
      refine g_iload X 15 dL_law_87 rfl ?_
      refine g_bipush X (v := nI 12) dL_law_89 (by decide +kernel) ?_
      refine g_icN_ge X (a := 12) (b := 12) (tgt := 134) (by omega) (by omega) dL_law_91 (by decide) (fun h7 => ?_) (fun h7 => absurd h7 (by omega))
      refine g_iconst X (v := nI 1) dL_law_134 (by decide +kernel) ?_
      refine g_istore X [(15, .int (nI 1)), (0, .ref b), (1, .ref (x 0)), (2, .ref (y 0)), (3, .ref (y 1)), (4, .ref (y 2)), (5, .ref (y 3)), (6, .ref (y 4)), (7, .ref (y 5)), (8, .ref (y 6)), (9, .ref (y 7)), (10, .ref (y 8)), (11, .ref (y 9)), (12, .ref (y 10)), (13, .ref (y 11)), (14, .ref (y 12))] dL_law_135 (Nat.le_of_ble_eq_true rfl) rfl ?_
      refine g_iconst X (v := nI 0) dL_law_137 (by decide +kernel) ?_
      refine g_istore X [(16, .int (nI 0)), (15, .int (nI 1)), (0, .ref b), (1, .ref (x 0)), (2, .ref (y 0)), (3, .ref (y 1)), (4, .ref (y 2)), (5, .ref (y 3)), (6, .ref (y 4)), (7, .ref (y 5)), (8, .ref (y 6)), (9, .ref (y 7)), (10, .ref (y 8)), (11, .ref (y 9)), (12, .ref (y 10)), (13, .ref (y 11)), (14, .ref (y 12))] dL_law_138 (Nat.le_of_ble_eq_true rfl) rfl ?_
      refine g_lv [(0, .ref b), (1, .ref (x 0)), (2, .ref (y 0)), (3, .ref (y 1)), (4, .ref (y 2)), (5, .ref (y 3)), (6, .ref (y 4)), (7, .ref (y 5)), (8, .ref (y 6)), (9, .ref (y 7)), (10, .ref (y 8)), (11, .ref (y 9)), (12, .ref (y 10)), (13, .ref (y 11)), (14, .ref (y 12)), (15, .int (nI 1)), (16, .int (nI 0))] [2, 3, 4, 5, 6, 7, 8, 9, 10, 11, 12, 13, 14, 15, 16, 1, 0] rfl ?_
      rw [eaC4, eaS5]
      exact kk
    | succ n3 ihL1 =>
      intro i2 aC4 aS5 hi6 eaC4 eaS5
      have hlti2 : i2 < 12 := by omega
      refine g_iload X 15 dL_law_87 rfl ?_
      refine g_bipush X (v := nI 12) dL_law_89 (by decide +kernel) ?_
      refine g_icN_ge X (a := i2) (b := 12) (tgt := 134) (by omega) (by omega) dL_law_91 (by decide) (fun h8 => absurd h8 (by omega)) (fun h8 => ?_)
      refine g_aload_n X 2 dL_law_94 rfl rfl ?_
      refine g_iload X 15 dL_law_95 rfl ?_
      refine g_ldc2 X kL_L_152 dL_law_97 ?_
      obtain ⟨aS9, eaS9⟩ : ∃ z : St, z = u2 aS5 0 i2 (10000 : Int64) := ⟨_, rfl⟩
      refine g_last X (ws' := wX2 x cI cJ cZ iC zN iS zQ zS iC zN iS zQ zS ++ wL y cI cJ aC4 zN aS9 zQ) 71 rfl (i2) rfl (by omega) (Nat.le_of_ble_eq_true rfl) dL_law_100 (by rw [eaS9]; first | done | (rfl)) ?_
      refine g_aload_n X 3 dL_law_101 rfl rfl ?_
      refine g_iload X 15 dL_law_102 rfl ?_
      refine g_ldc2 X kL_L_154 dL_law_104 ?_
      obtain ⟨aS10, eaS10⟩ : ∃ z : St, z = u2 aS9 1 i2 (6000000 : Int64) := ⟨_, rfl⟩
      refine g_last X (ws' := wX2 x cI cJ cZ iC zN iS zQ zS iC zN iS zQ zS ++ wL y cI cJ aC4 zN aS10 zQ) 72 rfl (i2) rfl (by omega) (Nat.le_of_ble_eq_true rfl) dL_law_107 (by rw [eaS10]; first | done | (rfl)) ?_
      refine g_aload X 6 dL_law_108 rfl ?_
      refine g_iconst X (v := nI 2) dL_law_110 (by decide +kernel) ?_
      refine g_iload X 15 dL_law_111 rfl ?_
      refine g_imul X (v := nI (2 * i2)) dL_law_113 (pk_mul _ _) ?_
      refine g_bipush X (v := nI 20) dL_law_114 (by decide +kernel) ?_
      obtain ⟨aC11, eaC11⟩ : ∃ z : Cf, z = c2 aC4 0 i2 (nI 20) := ⟨_, rfl⟩
      refine g_iast X (ws' := wX2 x cI cJ cZ iC zN iS zQ zS iC zN iS zQ zS ++ wL y cI cJ aC11 zN aS10 zQ) 75 rfl (2 * i2) rfl (by omega) (Nat.le_of_ble_eq_true rfl) dL_law_116 (by rw [eaC11]; first | done | (rw [lrC_w0]; rfl)) ?_
      refine g_aload X 6 dL_law_117 rfl ?_
      refine g_iconst X (v := nI 2) dL_law_119 (by decide +kernel) ?_
      refine g_iload X 15 dL_law_120 rfl ?_
      refine g_imul X (v := nI (2 * i2)) dL_law_122 (pk_mul _ _) ?_
      refine g_iconst X (v := nI 1) dL_law_123 (by decide +kernel) ?_
      refine g_iadd X (v := nI (2 * i2 + 1)) dL_law_124 ((nI_add _ _).trans (congrArg nI (by omega))) ?_
      refine g_bipush X (v := nI 20) dL_law_125 (by decide +kernel) ?_
      obtain ⟨aC12, eaC12⟩ : ∃ z : Cf, z = c2 aC11 1 i2 (nI 20) := ⟨_, rfl⟩
      refine g_iast X (ws' := wX2 x cI cJ cZ iC zN iS zQ zS iC zN iS zQ zS ++ wL y cI cJ aC12 zN aS10 zQ) 75 rfl (2 * i2 + 1) rfl (by omega) (Nat.le_of_ble_eq_true rfl) dL_law_127 (by rw [eaC12]; first | done | (rw [lrC_w1]; rfl)) ?_
      refine g_iinc X [(15, .int (nI (i2 + 1))), (0, .ref b), (1, .ref (x 0)), (2, .ref (y 0)), (3, .ref (y 1)), (4, .ref (y 2)), (5, .ref (y 3)), (6, .ref (y 4)), (7, .ref (y 5)), (8, .ref (y 6)), (9, .ref (y 7)), (10, .ref (y 8)), (11, .ref (y 9)), (12, .ref (y 10)), (13, .ref (y 11)), (14, .ref (y 12))] (q := 15) (v := nI (i2 + 1)) dL_law_128 rfl ((congrArg (fun z => nI (i2) + z) (show Int32.ofInt 1 = nI 1 by decide +kernel)).trans ((nI_add _ _).trans (congrArg nI (by omega)))) (Nat.le_of_ble_eq_true rfl) rfl ?_
      refine g_goto X (tgt := 87) dL_law_131 (by decide) ?_
      refine g_lv _ [1, 2, 3, 4, 5, 6, 7, 8, 9, 10, 11, 12, 13, 14, 15, 0] rfl ?_
      exact ihL1 (i2 + 1) _ _ (by omega) (by (try rw [eaC12]); (try rw [eaC11]); (try rw [eaS10]); (try rw [eaS9]); (try rw [eaS5]); (try rw [eaC4]); first | done | (rfl)) (by (try rw [eaC12]); (try rw [eaC11]); (try rw [eaS10]); (try rw [eaS9]); (try rw [eaS5]); (try rw [eaC4]); first | done | (rfl))
  refine g_lv _ [1, 2, 3, 4, 5, 6, 7, 8, 9, 10, 11, 12, 13, 14, 15, 0] rfl ?_
  exact L1 (12) 0 _ _ (by omega) (by first | rfl | (first | done | rfl)) (by first | rfl | (first | done | rfl))
