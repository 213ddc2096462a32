set_option maxRecDepth 100000 in
set_option maxHeartbeats 4000000 in
theorem n_law_tells (l : Launch) (D : va_G) (cI cJ cZ : ClassId) (x y : Nat → Nat) (b : Nat) {p : Program} {e : Env} {s : State} {m : MethodId} {args : Array Value} {below : List Frame} {meth : Method} {c : Code} {A : Nat → Prop} (X : g_Cx p s m args c D A 25 cL_law RL cI cJ cZ) {Q : State → Prop} (C : Cf) (N : Nat → Nat) (S : St) (Qk : Nat → Int64) (Z : St) (jC : Cf) (jN : Nat → Nat) (jS : St) (jQ : Nat → Int64) (jZ : St) (zv : Int32) (tn ac : Nat) (hac : ac < 18) (mo : Nat) (hm : mo ≤ 600) (hL : LV C N S mo) (kc ks : Nat) (hkc : kc ≤ 600130) (hks : ks ≤ 7301080) (kk : ∀ (C2 : Cf) (N2 : Nat → Nat) (S2 : St), LV C2 N2 S2 mo → (N 0 ≤ N2 0 ∧ N 1 ≤ N2 1 ∧ N 2 ≤ N2 2) → g_G p l e room_1 s m args below meth c D A 25 kc ks Q (wX2 x cI cJ cZ C2 N2 S2 Qk Z jC jN jS jQ jZ ++ wL y cI cJ C2 N2 S2 Qk) [(0, .ref b), (1, .ref (x 0)), (2, .ref (y 0)), (3, .ref (y 1)), (4, .ref (y 2)), (5, .ref (y 3)), (6, .ref (y 4)), (7, .ref (y 5)), (8, .ref (y 6)), (9, .ref (y 7)), (10, .ref (y 8)), (11, .ref (y 9)), (12, .ref (y 10)), (13, .ref (y 11)), (14, .ref (y 12)), (15, .int (nI 1)), (16, .int (nI tn)), (19, .int zv)] 471 []) : g_G p l e room_1 s m args below meth c D A 25 kc ks Q (wX2 x cI cJ cZ C N S Qk Z jC jN jS jQ jZ ++ wL y cI cJ C N S Qk) [(0, .ref b), (1, .ref (x 0)), (2, .ref (y 0)), (3, .ref (y 1)), (4, .ref (y 2)), (5, .ref (y 3)), (6, .ref (y 4)), (7, .ref (y 5)), (8, .ref (y 6)), (9, .ref (y 7)), (10, .ref (y 8)), (11, .ref (y 9)), (12, .ref (y 10)), (13, .ref (y 11)), (14, .ref (y 12)), (16, .int (nI tn)), (18, .int (nI ac)), (19, .int zv)] 199 [] := by
  refine g_aload_n X 1 dL_law_199 rfl rfl ?_
  refine g_iload X 16 dL_law_200 rfl ?_
  refine g_iconst X (v := nI 2) dL_law_202 (by decide +kernel) ?_
  have J11 : ∀ (v10 : Nat), v10 = (if 2 ≤ ac then if 4 ≤ ac then if 5 ≤ ac then if 9 ≤ ac then if 13 ≤ ac then if 14 ≤ ac then if 15 ≤ ac then if 16 ≤ ac then if 17 ≤ ac then 9 else 8 else 7 else 6 else 5 else 4 else 3 else 2 else 1 else 0) → g_G p l e room_1 s m args below meth c D A 25 kc ks Q (wX2 x cI cJ cZ C N S Qk Z jC jN jS jQ jZ ++ wL y cI cJ C N S Qk) [(0, .ref b), (1, .ref (x 0)), (2, .ref (y 0)), (3, .ref (y 1)), (4, .ref (y 2)), (5, .ref (y 3)), (6, .ref (y 4)), (7, .ref (y 5)), (8, .ref (y 6)), (9, .ref (y 7)), (10, .ref (y 8)), (11, .ref (y 9)), (12, .ref (y 10)), (13, .ref (y 11)), (14, .ref (y 12)), (16, .int (nI tn)), (19, .int zv)] 301 [.int (nI v10), .ref (x 0)] := by
    intro v10 ev10
    have bv10 : v10 < 2147483648 := by subst ev10; (repeat' split) <;> omega
    have hact : v10 < 10 := by subst ev10; (repeat' split) <;> omega
    refine g_iload X 16 dL_law_301 rfl ?_
    refine g_aload_n X 2 dL_law_303 rfl rfl ?_
    refine g_aload_n X 3 dL_law_304 rfl rfl ?_
    refine g_aload X 4 dL_law_305 rfl ?_
    refine g_aload X 6 dL_law_307 rfl ?_
    refine g_aload X 7 dL_law_309 rfl ?_
    refine g_aload X 9 dL_law_311 rfl ?_
    refine g_aload X 11 dL_law_313 rfl ?_
    refine g_aload X 14 dL_law_315 rfl ?_
    refine g_lv [(0, .ref b), (1, .ref (x 0)), (2, .ref (y 0)), (3, .ref (y 1)), (4, .ref (y 2)), (5, .ref (y 3)), (6, .ref (y 4)), (7, .ref (y 5)), (8, .ref (y 6)), (9, .ref (y 7)), (10, .ref (y 8)), (11, .ref (y 9)), (12, .ref (y 10)), (13, .ref (y 11)), (14, .ref (y 12)), (16, .int (nI tn)), (19, .int zv)] [0, 1, 2, 3, 4, 5, 6, 7, 8, 9, 10, 11, 12, 13, 14, 15, 16] rfl ?_
    refine g_callS X (As := [.ref (x 0), .int (nI v10), .int zv, .ref (y 0), .ref (y 1), .ref (y 2), .ref (y 4), .ref (y 5), .ref (y 7), .ref (y 9), .ref (y 12)]) (rest := []) (m_L_tells l D cI cJ cZ x y C N S Qk Z jC jN jS jQ jZ v10 zv mo hm hL hact) kM_L_160 kT_yL_tells kZ_RL kC_yL_tells hV_L_tells rfl rfl rfl ⟨Nat.le_of_ble_eq_true rfl, Nat.le_of_ble_eq_true rfl⟩ (show _ ≤ 600130 ∧ _ ≤ 7301080 by omega) (Nat.le_of_ble_eq_true rfl) dL_law_317 rfl (em_I 0 84 84 0) (em_C (by decide) (Nat.le_of_ble_eq_true rfl) rfl) (em_nd (by decide)) (fun v9 w9 hv9 => ?_)
    obtain ⟨rfl, C2, N2, S2, hL2, hle, rfl⟩ := hv9
    refine ⟨wX2 x cI cJ cZ C2 N2 S2 Qk Z jC jN jS jQ jZ ++ wL y cI cJ C2 N2 S2 Qk, em3 (w2 := wX2 x cI cJ cZ C2 N2 S2 Qk Z jC jN jS jQ jZ ++ wL y cI cJ C2 N2 S2 Qk) 0 84 84 0 (by decide) (Nat.le_of_ble_eq_true rfl) rfl rfl rfl, ?_⟩
    refine g_istore X [(15, .int (nI 1)), (0, .ref b), (1, .ref (x 0)), (2, .ref (y 0)), (3, .ref (y 1)), (4, .ref (y 2)), (5, .ref (y 3)), (6, .ref (y 4)), (7, .ref (y 5)), (8, .ref (y 6)), (9, .ref (y 7)), (10, .ref (y 8)), (11, .ref (y 9)), (12, .ref (y 10)), (13, .ref (y 11)), (14, .ref (y 12)), (16, .int (nI tn)), (19, .int zv)] dL_law_320 (Nat.le_of_ble_eq_true rfl) rfl ?_
    refine g_goto X (tgt := 471) dL_law_322 (by decide) ?_
    refine g_lv [(0, .ref b), (1, .ref (x 0)), (2, .ref (y 0)), (3, .ref (y 1)), (4, .ref (y 2)), (5, .ref (y 3)), (6, .ref (y 4)), (7, .ref (y 5)), (8, .ref (y 6)), (9, .ref (y 7)), (10, .ref (y 8)), (11, .ref (y 9)), (12, .ref (y 10)), (13, .ref (y 11)), (14, .ref (y 12)), (15, .int (nI 1)), (16, .int (nI tn)), (19, .int zv)] [1, 2, 3, 4, 5, 6, 7, 8, 9, 10, 11, 12, 13, 14, 15, 0, 16, 17] rfl ?_
    exact kk C2 N2 S2 hL2 hle
  refine g_icN_ge X (a := ac) (b := 2) (tgt := 210) (by omega) (by omega) dL_law_203 (by decide) (fun h1 => ?_) (fun h1 => ?_)
  · --
    refine g_iload X 16 dL_law_210 rfl ?_
    refine g_iconst X (v := nI 4) dL_law_212 (by decide +kernel) ?_
    refine g_icN_ge X (a := ac) (b := 4) (tgt := 220) (by omega) (by omega) dL_law_213 (by decide) (fun h2 => ?_) (fun h2 => ?_)
    · --
      refine g_iload X 16 dL_law_220 rfl ?_
      refine g_iconst X (v := nI 5) dL_law_222 (by decide +kernel) ?_
      refine g_icN_ge X (a := ac) (b := 5) (tgt := 230) (by omega) (by omega) dL_law_223 (by decide) (fun h3 => ?_) (fun h3 => ?_)
      · --
        refine g_iload X 16 dL_law_230 rfl ?_
        refine g_bipush X (v := nI 9) dL_law_232 (by decide +kernel) ?_
        refine g_icN_ge X (a := ac) (b := 9) (tgt := 241) (by omega) (by omega) dL_law_234 (by decide) (fun h4 => ?_) (fun h4 => ?_)
        · --
          refine g_iload X 16 dL_law_241 rfl ?_
          refine g_bipush X (v := nI 13) dL_law_243 (by decide +kernel) ?_
          refine g_icN_ge X (a := ac) (b := 13) (tgt := 252) (by omega) (by omega) dL_law_245 (by decide) (fun h5 => ?_) (fun h5 => ?_)
          · --
            refine g_iload X 16 dL_law_252 rfl ?_
            refine g_bipush X (v := nI 14) dL_law_254 (by decide +kernel) ?_
            refine g_icN_ge X (a := ac) (b := 14) (tgt := 263) (by omega) (by omega) dL_law_256 (by decide) (fun h6 => ?_) (fun h6 => ?_)
            · --
              refine g_iload X 16 dL_law_263 rfl ?_
              refine g_bipush X (v := nI 15) dL_law_265 (by decide +kernel) ?_
              refine g_icN_ge X (a := ac) (b := 15) (tgt := 275) (by omega) (by omega) dL_law_267 (by decide) (fun h7 => ?_) (fun h7 => ?_)
              · --
                refine g_iload X 16 dL_law_275 rfl ?_
                refine g_bipush X (v := nI 16) dL_law_277 (by decide +kernel) ?_
                refine g_icN_ge X (a := ac) (b := 16) (tgt := 287) (by omega) (by omega) dL_law_279 (by decide) (fun h8 => ?_) (fun h8 => ?_)
                · --
                  refine g_iload X 16 dL_law_287 rfl ?_
                  refine g_bipush X (v := nI 17) dL_law_289 (by decide +kernel) ?_
                  refine g_icN_ge X (a := ac) (b := 17) (tgt := 299) (by omega) (by omega) dL_law_291 (by decide) (fun h9 => ?_) (fun h9 => ?_)
                  · --
                    refine g_bipush X (v := nI 9) dL_law_299 (by decide +kernel) ?_
                    refine g_lv _ [0, 1, 2, 3, 4, 5, 6, 7, 8, 9, 10, 11, 12, 13, 14, 15, 17] rfl ?_
                    exact J11 _ (by rw [if_pos (c := 2 ≤ ac) h1, if_pos (c := 4 ≤ ac) h2, if_pos (c := 5 ≤ ac) h3, if_pos (c := 9 ≤ ac) h4, if_pos (c := 13 ≤ ac) h5, if_pos (c := 14 ≤ ac) h6, if_pos (c := 15 ≤ ac) h7, if_pos (c := 16 ≤ ac) h8, if_pos (c := 17 ≤ ac) h9])
                  · --
                    refine g_bipush X (v := nI 8) dL_law_294 (by decide +kernel) ?_
                    refine g_goto X (tgt := 301) dL_law_296 (by decide) ?_
                    refine g_lv _ [0, 1, 2, 3, 4, 5, 6, 7, 8, 9, 10, 11, 12, 13, 14, 15, 17] rfl ?_
                    exact J11 _ (by rw [if_pos (c := 2 ≤ ac) h1, if_pos (c := 4 ≤ ac) h2, if_pos (c := 5 ≤ ac) h3, if_pos (c := 9 ≤ ac) h4, if_pos (c := 13 ≤ ac) h5, if_pos (c := 14 ≤ ac) h6, if_pos (c := 15 ≤ ac) h7, if_pos (c := 16 ≤ ac) h8, if_neg (c := 17 ≤ ac) h9])
                · --
                  refine g_bipush X (v := nI 7) dL_law_282 (by decide +kernel) ?_
                  refine g_goto X (tgt := 301) dL_law_284 (by decide) ?_
                  refine g_lv _ [0, 1, 2, 3, 4, 5, 6, 7, 8, 9, 10, 11, 12, 13, 14, 15, 17] rfl ?_
                  exact J11 _ (by rw [if_pos (c := 2 ≤ ac) h1, if_pos (c := 4 ≤ ac) h2, if_pos (c := 5 ≤ ac) h3, if_pos (c := 9 ≤ ac) h4, if_pos (c := 13 ≤ ac) h5, if_pos (c := 14 ≤ ac) h6, if_pos (c := 15 ≤ ac) h7, if_neg (c := 16 ≤ ac) h8])
              · --
                refine g_bipush X (v := nI 6) dL_law_270 (by decide +kernel) ?_
                refine g_goto X (tgt := 301) dL_law_272 (by decide) ?_
                refine g_lv _ [0, 1, 2, 3, 4, 5, 6, 7, 8, 9, 10, 11, 12, 13, 14, 15, 17] rfl ?_
                exact J11 _ (by rw [if_pos (c := 2 ≤ ac) h1, if_pos (c := 4 ≤ ac) h2, if_pos (c := 5 ≤ ac) h3, if_pos (c := 9 ≤ ac) h4, if_pos (c := 13 ≤ ac) h5, if_pos (c := 14 ≤ ac) h6, if_neg (c := 15 ≤ ac) h7])
            · --
              refine g_iconst X (v := nI 5) dL_law_259 (by decide +kernel) ?_
              refine g_goto X (tgt := 301) dL_law_260 (by decide) ?_
              refine g_lv _ [0, 1, 2, 3, 4, 5, 6, 7, 8, 9, 10, 11, 12, 13, 14, 15, 17] rfl ?_
              exact J11 _ (by rw [if_pos (c := 2 ≤ ac) h1, if_pos (c := 4 ≤ ac) h2, if_pos (c := 5 ≤ ac) h3, if_pos (c := 9 ≤ ac) h4, if_pos (c := 13 ≤ ac) h5, if_neg (c := 14 ≤ ac) h6])
          · --
            refine g_iconst X (v := nI 4) dL_law_248 (by decide +kernel) ?_
            refine g_goto X (tgt := 301) dL_law_249 (by decide) ?_
            refine g_lv _ [0, 1, 2, 3, 4, 5, 6, 7, 8, 9, 10, 11, 12, 13, 14, 15, 17] rfl ?_
            exact J11 _ (by rw [if_pos (c := 2 ≤ ac) h1, if_pos (c := 4 ≤ ac) h2, if_pos (c := 5 ≤ ac) h3, if_pos (c := 9 ≤ ac) h4, if_neg (c := 13 ≤ ac) h5])
        · --
          refine g_iconst X (v := nI 3) dL_law_237 (by decide +kernel) ?_
          refine g_goto X (tgt := 301) dL_law_238 (by decide) ?_
          refine g_lv _ [0, 1, 2, 3, 4, 5, 6, 7, 8, 9, 10, 11, 12, 13, 14, 15, 17] rfl ?_
          exact J11 _ (by rw [if_pos (c := 2 ≤ ac) h1, if_pos (c := 4 ≤ ac) h2, if_pos (c := 5 ≤ ac) h3, if_neg (c := 9 ≤ ac) h4])
      · --
        refine g_iconst X (v := nI 2) dL_law_226 (by decide +kernel) ?_
        refine g_goto X (tgt := 301) dL_law_227 (by decide) ?_
        refine g_lv _ [0, 1, 2, 3, 4, 5, 6, 7, 8, 9, 10, 11, 12, 13, 14, 15, 17] rfl ?_
        exact J11 _ (by rw [if_pos (c := 2 ≤ ac) h1, if_pos (c := 4 ≤ ac) h2, if_neg (c := 5 ≤ ac) h3])
    · --
      refine g_iconst X (v := nI 1) dL_law_216 (by decide +kernel) ?_
      refine g_goto X (tgt := 301) dL_law_217 (by decide) ?_
      refine g_lv _ [0, 1, 2, 3, 4, 5, 6, 7, 8, 9, 10, 11, 12, 13, 14, 15, 17] rfl ?_
      exact J11 _ (by rw [if_pos (c := 2 ≤ ac) h1, if_neg (c := 4 ≤ ac) h2])
  · --
    refine g_iconst X (v := nI 0) dL_law_206 (by decide +kernel) ?_
    refine g_goto X (tgt := 301) dL_law_207 (by decide) ?_
    refine g_lv _ [0, 1, 2, 3, 4, 5, 6, 7, 8, 9, 10, 11, 12, 13, 14, 15, 17] rfl ?_
    exact J11 _ (by rw [if_neg (c := 2 ≤ ac) h1])
theorem mo_1 {S : St} {m : Nat} (h : S 13 0 = lN m) (hm : m ≤ 900) : 0 ≤ (u2 S 13 0 (S 13 0 + 1) 13 0).toInt ∧ (u2 S 13 0 (S 13 0 + 1) 13 0).toInt ≤ 1000 := by
  rw [u2_same, h, lN_1, lN_toInt (by omega)]
  omega
theorem mo_w {C : Cf} {N : Nat → Nat} {S : St} {m : Nat} (h : Iv C N S m) (hm : m ≤ 600) : Wk (50000 + 100000500 * (m : Int)) (u2 S 13 0 (S 13 0 + 1)) ∧ Wel N (u2 S 13 0 (S 13 0 + 1)) := by
  obtain ⟨hC, hR, hX9, h3, hZ9, hW9, hE9, h139, hq9, hB9, h109⟩ := h
  exact ⟨hW9.row rfl, Wel.rows hE9 (fun _ _ => rfl) (fun _ _ => rfl) (mo_1 h139 (by omega))⟩
theorem mo_4 {C : Cf} {N : Nat → Nat} {S : St} {m : Nat} (h : Iv C N S m) (hm : m ≤ 600) : Wk (50000 + 100000500 * (m : Int) + 100000000) (m4S C N S) ∧ (m4S C N S 14 0 = lN (qN (m4S C N S)) ∧ qN (m4S C N S) ≤ 900000) := by
  obtain ⟨hC, hR, hX9, h3, hZ9, hW9, hE9, h139, hq9, hB9, h109⟩ := h
  refine ⟨m4_ok C N S _ hC hW9 (by omega) (by omega) hE9 (by rw [h139, lN_toInt (by omega)]; omega), ?_⟩
  unfold qN
  rw [m4_q]
  have e := hq9.2
  unfold qN at e
  exact ⟨hq9.1, by omega⟩
theorem pa_ok {S : St} {m k : Nat} (h : S 13 0 = lN m) (hk : m + k ≤ 600) : S 13 0 + (nI k).toInt64 ≤ 600 := by
  rw [h, nI_l (by omega), lN_add, show (600 : Int64) = lN 600 by decide, pk_lLE (by omega) (by decide)]
  exact hk
theorem nI_5 (a : Int64) : (a + 1).toInt32 = a.toInt32 + nI 1 := by
  rw [Int64.toInt32_add]
  rfl

set_option maxRecDepth 100000 in
set_option maxHeartbeats 4000000 in
theorem n_law_months (l : Launch) (D : va_G) (cI cJ cZ : ClassId) (x y : Nat → Nat) (b : Nat) {p : Program} {e : Env} {s : State} {m : MethodId} {args : Array Value} {below : List Frame} {meth : Method} {c : Code} {A : Nat → Prop} (X : g_Cx p s m args c D A 25 cL_law RL cI cJ cZ) {Q : State → Prop} (C : Cf) (N : Nat → Nat) (S : St) (Qk : Nat → Int64) (Z kS : St) (kQ : Nat → Int64) (kZ : St) (hkZ : ZB C N kS) (zv : Int32) (tn k9 b9 : Nat) (wo : Int64) (hb9 : b9 < 12) (hk1 : 1 ≤ k9) (hk2 : k9 ≤ 9) (ewo : wo = tellG (mnS C N S k9) b9 2) (mo kc0 ks0 : Nat) (hmo : mo + 9 ≤ 600) (hL : LV C N S mo) (hkc0 : kc0 ≤ 600130) (hks0 : ks0 ≤ 7301080) (kk : ∀ (C : Cf) (N : Nat → Nat) (S : St) (Qk : Nat → Int64) (Z : St) (jC : Cf) (jN : Nat → Nat) (jS : St) (jQ : Nat → Int64) (jZ : St) (mo2 kc2 ks2 : Nat), LV C N S mo2 → ZB jC jN jS → (jN 0 ≤ N 0 ∧ jN 1 ≤ N 1 ∧ jN 2 ≤ N 2) → mo2 ≤ mo + 9 → kc2 ≤ kc0 → ks2 ≤ ks0 → g_G p l e room_1 s m args below meth c D A 25 kc2 ks2 Q (wX2 x cI cJ cZ C N S Qk Z jC jN jS jQ jZ ++ wL y cI cJ C N S Qk) [(0, .ref b), (1, .ref (x 0)), (2, .ref (y 0)), (3, .ref (y 1)), (4, .ref (y 2)), (5, .ref (y 3)), (6, .ref (y 4)), (7, .ref (y 5)), (8, .ref (y 6)), (9, .ref (y 7)), (10, .ref (y 8)), (11, .ref (y 9)), (12, .ref (y 10)), (13, .ref (y 11)), (14, .ref (y 12)), (15, .int (nI 1)), (16, .int (nI tn)), (19, .int zv)] 471 []) : ∀ (n i kc ks : Nat) (Si : St) (Qi : Nat → Int64), i + n = k9 → Si = mnS C N S i → Qi = mnQ C N S Qk i → kc + 3 * n ≤ kc0 → ks + 36 * n ≤ ks0 → g_G p l e room_1 s m args below meth c D A 25 kc ks Q (wX2 x cI cJ cZ C N S Qk Z C N kS kQ kZ ++ wL y cI cJ C N Si Qi) [(0, .ref b), (1, .ref (x 0)), (2, .ref (y 0)), (3, .ref (y 1)), (4, .ref (y 2)), (5, .ref (y 3)), (6, .ref (y 4)), (7, .ref (y 5)), (8, .ref (y 6)), (9, .ref (y 7)), (10, .ref (y 8)), (11, .ref (y 9)), (12, .ref (y 10)), (13, .ref (y 11)), (14, .ref (y 12)), (16, .int (nI tn)), (19, .int zv), (20, .int (nI k9)), (21, .int (nI b9)), (22, .long wo), (24, .int (nI i))] 376 [] := by
  obtain ⟨hC, hR, hX, h3, hZB, hWk, hE, h13, hq, hB, h10⟩ := hL.1
  have hI := hL.1.mons (by omega)
  have hM : 0 ≤ (S 13 0).toInt ∧ (S 13 0).toInt ≤ 1000 := hE.2.2
  have hn0 := hL.2.2.2.1
  have hn1 := hL.2.2.2.2.1
  have hn2 := hL.2.2.2.2.2
  intro n
  induction n with
  | zero =>
    intro i kc ks Si Qi hin eSi eQi hkc hks
    obtain rfl : k9 = i := by omega
    refine g_iload X 20 dL_law_376 rfl ?_
    refine g_iload X 17 dL_law_378 rfl ?_
    refine g_icN_ge X (a := k9) (b := k9) (tgt := 441) (by omega) (by omega) dL_law_380 (by decide) (fun h => ?_) (fun h => absurd (Nat.le_refl _) h)
    refine g_aload_n X 1 dL_law_441 rfl rfl ?_
    refine g_iload X 17 dL_law_442 rfl ?_
    obtain ⟨S1, eS1⟩ : ∃ z : St, z = mnS C N S k9 := ⟨_, rfl⟩
    obtain ⟨Qk2, eQk2⟩ : ∃ z : Nat → Int64, z = mnQ C N S Qk k9 := ⟨_, rfl⟩
    obtain ⟨X3, eX3⟩ : ∃ z : St, z = mnZ C N S Z k9 := ⟨_, rfl⟩
    refine g_callV X (As := [.int (nI k9)]) (rest := []) (c_pass l D cI cJ cZ x (x 36) C N S Qk Z k9 hk1 (by omega) (pa_ok h13 (by omega)) hC hR hX hI hM) kM_L_176 kI_yX6_pass kS_yX6_pass kZ_RX6 kC_yX6_pass hV_X6_pass rfl rfl rfl 0 rfl (ci := 6) rfl ⟨Nat.le_of_ble_eq_true rfl, Nat.le_of_ble_eq_true rfl⟩ (show _ ≤ 600130 ∧ _ ≤ 7301080 by omega) (Nat.le_of_ble_eq_true rfl) dL_law_444 rfl (em_I 0 36 36 0) (em_C (by decide) (Nat.le_of_ble_eq_true rfl) rfl) (em_nd (by decide)) (g_kk1 (w2 := wX2 x cI cJ cZ C N S1 Qk2 X3 C N kS kQ kZ ++ wL y cI cJ C N Si Qi) (by rw [eX3]; rw [eQk2]; rw [eS1]; exact (em3 0 36 36 0 (by decide) (Nat.le_of_ble_eq_true rfl) rfl rfl rfl)) ?_)
    refine g_aload X 14 dL_law_447 rfl ?_
    refine g_iconst X (v := nI 0) dL_law_449 (by decide +kernel) ?_
    refine g_iald X 83 rfl (0) rfl (by omega) (Nat.le_of_ble_eq_true rfl) (v := (Si 13 0).toInt32) rfl dL_law_450 ?_
    refine g_icmp_ne X (tgt := 468) dL_law_451 (by decide) (fun h4 => absurd (by rw [eSi]) h4) (fun h4 => ?_)
    refine g_lload X 19 dL_law_454 rfl ?_
    refine g_aload_n X 3 dL_law_456 rfl rfl ?_
    refine g_iload X 18 dL_law_457 rfl ?_
    refine g_lald X 72 rfl (b9) rfl (by omega) (Nat.le_of_ble_eq_true rfl) (v := Si 1 b9) rfl dL_law_459 ?_
    refine g_lj_ne X (tgt := 468) (pc1 := 461) dL_law_460 rfl dL_law_461 (by decide) (fun h5 => absurd (by rw [ewo, eSi]; rfl) h5) (fun h5 => ?_)
    refine g_iconst X (v := nI 1) dL_law_464 (by decide +kernel) ?_
    refine g_goto X (tgt := 469) dL_law_465 (by decide) ?_
    refine g_istore X [(15, .int (nI 1)), (0, .ref b), (1, .ref (x 0)), (2, .ref (y 0)), (3, .ref (y 1)), (4, .ref (y 2)), (5, .ref (y 3)), (6, .ref (y 4)), (7, .ref (y 5)), (8, .ref (y 6)), (9, .ref (y 7)), (10, .ref (y 8)), (11, .ref (y 9)), (12, .ref (y 10)), (13, .ref (y 11)), (14, .ref (y 12)), (16, .int (nI tn)), (19, .int zv), (20, .int (nI k9)), (21, .int (nI b9)), (22, .long wo), (24, .int (nI k9))] dL_law_469 (Nat.le_of_ble_eq_true rfl) rfl ?_
    refine g_lv [(0, .ref b), (1, .ref (x 0)), (2, .ref (y 0)), (3, .ref (y 1)), (4, .ref (y 2)), (5, .ref (y 3)), (6, .ref (y 4)), (7, .ref (y 5)), (8, .ref (y 6)), (9, .ref (y 7)), (10, .ref (y 8)), (11, .ref (y 9)), (12, .ref (y 10)), (13, .ref (y 11)), (14, .ref (y 12)), (15, .int (nI 1)), (16, .int (nI tn)), (19, .int zv)] [1, 2, 3, 4, 5, 6, 7, 8, 9, 10, 11, 12, 13, 14, 15, 0, 16, 17] rfl ?_
    rw [eX3, eQk2, eS1, eSi, eQi]
    exact kk C N (mnS C N S k9) (mnQ C N S Qk k9) (mnZ C N S Z k9) C N kS kQ kZ (mo + k9) kc ks (mns_LV hL k9 (by omega)) hkZ ⟨Nat.le_refl _, Nat.le_refl _, Nat.le_refl _⟩ (by omega) (by omega) (by omega)
  | succ n ih =>
    intro i kc ks Si Qi hin eSi eQi hkc hks
    refine g_iload X 20 dL_law_376 rfl ?_
    refine g_iload X 17 dL_law_378 rfl ?_
    refine g_icN_ge X (a := i) (b := k9) (tgt := 441) (by omega) (by omega) dL_law_380 (by decide) (fun h => absurd h (by omega)) (fun h => ?_)
    have hIi := (mns_LV hL i (by omega)).1
    have hw1 := mo_w hIi (by omega)
    have hw4 := mo_4 hIi (by omega)
    obtain ⟨hC, hR, hX9, h3, hZ9, hW9, hE9, h139, hq9, hB9, h109⟩ := hIi
    refine g_aload X 14 dL_law_383 rfl ?_
    refine g_iconst X (v := nI 0) dL_law_385 (by decide +kernel) ?_
    refine g_dup2_11 X dL_law_386 rfl rfl ?_
    refine g_iald X 83 rfl (0) rfl (by omega) (Nat.le_of_ble_eq_true rfl) (v := (Si 13 0).toInt32) rfl dL_law_387 ?_
    refine g_iconst X (v := nI 1) dL_law_388 (by decide +kernel) ?_
    refine g_iadd X (v := ((Si 13 0).toInt32) + (nI 1)) dL_law_389 rfl ?_
    obtain ⟨aS1, eaS1⟩ : ∃ z : St, z = u2 Si 13 0 (Si 13 0 + 1) := ⟨_, rfl⟩
    refine g_iast X (ws' := wX2 x cI cJ cZ C N S Qk Z C N kS kQ kZ ++ wL y cI cJ C N aS1 Qi) 83 rfl (0) rfl (by omega) (Nat.le_of_ble_eq_true rfl) dL_law_390 (by rw [eaS1]; first | done | (rw [lrQ_w0 _ _ _ (v := Si 13 0 + 1) (nI_5 _)]; rfl)) ?_
    refine g_aload_n X 2 dL_law_391 rfl rfl ?_
    refine g_aload_n X 3 dL_law_392 rfl rfl ?_
    refine g_aload X 4 dL_law_393 rfl ?_
    refine g_aload X 5 dL_law_395 rfl ?_
    refine g_aload X 7 dL_law_397 rfl ?_
    refine g_aload X 8 dL_law_399 rfl ?_
    refine g_aload X 9 dL_law_401 rfl ?_
    refine g_aload X 10 dL_law_403 rfl ?_
    refine g_aload X 11 dL_law_405 rfl ?_
    refine g_aload X 12 dL_law_407 rfl ?_
    refine g_aload X 14 dL_law_409 rfl ?_
    obtain ⟨aS2, eaS2⟩ : ∃ z : St, z = wlS C N aS1 := ⟨_, rfl⟩
    refine g_callS X (As := [.ref (y 0), .ref (y 1), .ref (y 2), .ref (y 3), .ref (y 5), .ref (y 6), .ref (y 7), .ref (y 8), .ref (y 9), .ref (y 10), .ref (y 12)]) (rest := []) (m_L_wells l D cI cJ cZ y C N aS1 Qi  (50000 + 100000500 * ((mo + i : Nat) : Int)) hC h3 (by rw [eaS1, eSi]; exact hw1.1) (by omega) (by omega) (by rw [eaS1, eSi]; exact hw1.2) hn0 hn1 hn2) kM_L_168 kT_yL_wells kZ_RL kC_yL_wells hV_L_wells rfl rfl rfl ⟨Nat.le_of_ble_eq_true rfl, Nat.le_of_ble_eq_true rfl⟩ (show _ ≤ 600130 ∧ _ ≤ 7301080 by omega) (Nat.le_of_ble_eq_true rfl) dL_law_411 rfl (em_I 71 13 84 0) (em_C (by decide) (Nat.le_of_ble_eq_true rfl) rfl) (em_nd (by decide)) (g_kk1 (w2 := wX2 x cI cJ cZ C N S Qk Z C N kS kQ kZ ++ wL y cI cJ C N aS2 Qi) (by rw [eaS2]; exact (em3 71 13 84 0 (by decide) (Nat.le_of_ble_eq_true rfl) rfl rfl rfl)) ?_)
    refine g_aload_n X 2 dL_law_414 rfl rfl ?_
    refine g_aload_n X 3 dL_law_415 rfl rfl ?_
    refine g_aload X 4 dL_law_416 rfl ?_
    refine g_aload X 5 dL_law_418 rfl ?_
    refine g_aload X 6 dL_law_420 rfl ?_
    refine g_aload X 9 dL_law_422 rfl ?_
    refine g_aload X 10 dL_law_424 rfl ?_
    refine g_aload X 12 dL_law_426 rfl ?_
    refine g_aload X 13 dL_law_428 rfl ?_
    refine g_aload X 14 dL_law_430 rfl ?_
    obtain ⟨aS3, eaS3⟩ : ∃ z : St, z = grS C N aS2 := ⟨_, rfl⟩
    obtain ⟨aQ4, eaQ4⟩ : ∃ z : Nat → Int64, z = shQ aS2 Qi 12 := ⟨_, rfl⟩
    refine g_callS X (As := [.ref (y 0), .ref (y 1), .ref (y 2), .ref (y 3), .ref (y 4), .ref (y 7), .ref (y 8), .ref (y 10), .ref (y 11), .ref (y 12)]) (rest := []) (m_L_ground l D cI cJ cZ y C N aS2 Qi  (50000 + 100000500 * ((mo + i : Nat) : Int) + 100000000) hC hR hX9 (by rw [eaS2, eaS1, eSi]; exact hw4.1) (by omega) (by omega) (by rw [eaS2, eaS1, eSi]; exact hw4.2) hn2) kM_L_172 kT_yL_ground kZ_RL kC_yL_ground hV_L_ground rfl rfl rfl ⟨Nat.le_of_ble_eq_true rfl, Nat.le_of_ble_eq_true rfl⟩ (show _ ≤ 600130 ∧ _ ≤ 7301080 by omega) (Nat.le_of_ble_eq_true rfl) dL_law_432 rfl (em_I 71 13 84 0) (em_C (by decide) (Nat.le_of_ble_eq_true rfl) rfl) (em_nd (by decide)) (g_kk1 (w2 := wX2 x cI cJ cZ C N S Qk Z C N kS kQ kZ ++ wL y cI cJ C N aS3 aQ4) (by rw [eaQ4]; rw [eaS3]; exact (em3 71 13 84 0 (by decide) (Nat.le_of_ble_eq_true rfl) rfl rfl rfl)) ?_)
    refine g_iinc X [(24, .int (nI (i + 1))), (0, .ref b), (1, .ref (x 0)), (2, .ref (y 0)), (3, .ref (y 1)), (4, .ref (y 2)), (5, .ref (y 3)), (6, .ref (y 4)), (7, .ref (y 5)), (8, .ref (y 6)), (9, .ref (y 7)), (10, .ref (y 8)), (11, .ref (y 9)), (12, .ref (y 10)), (13, .ref (y 11)), (14, .ref (y 12)), (16, .int (nI tn)), (19, .int zv), (20, .int (nI k9)), (21, .int (nI b9)), (22, .long wo)] (q := 20) (v := nI (i + 1)) dL_law_435 rfl ((congrArg (fun z => nI (i) + z) (show Int32.ofInt 1 = nI 1 by decide +kernel)).trans ((nI_add _ _).trans (congrArg nI (by omega)))) (Nat.le_of_ble_eq_true rfl) rfl ?_
    refine g_goto X (tgt := 376) dL_law_438 (by decide) ?_
    refine g_lv [(0, .ref b), (1, .ref (x 0)), (2, .ref (y 0)), (3, .ref (y 1)), (4, .ref (y 2)), (5, .ref (y 3)), (6, .ref (y 4)), (7, .ref (y 5)), (8, .ref (y 6)), (9, .ref (y 7)), (10, .ref (y 8)), (11, .ref (y 9)), (12, .ref (y 10)), (13, .ref (y 11)), (14, .ref (y 12)), (16, .int (nI tn)), (19, .int zv), (20, .int (nI k9)), (21, .int (nI b9)), (22, .long wo), (24, .int (nI (i + 1)))] [1, 2, 3, 4, 5, 6, 7, 8, 9, 10, 11, 12, 13, 14, 15, 16, 17, 18, 19, 20, 0] rfl ?_
    exact ih (i + 1) (kc + 3) (ks + 36) aS3 aQ4 (by omega) (by rw [eaS3, eaS2, eaS1, eSi, wlS_m, grS_m]; exact (mnS_s C N S i).symm) (by rw [eaQ4, eaS2, eaS1, eSi, eQi, wlS_m]; exact (mnQ_s C N S Qk i).symm) (by omega) (by omega)
