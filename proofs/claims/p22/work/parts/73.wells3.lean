set_option maxRecDepth 100000 in
set_option maxHeartbeats 4000000 in
theorem n_L_wells_174 (l : Launch) (D : va_G) (cI cJ cZ : ClassId) (y : Nat → Nat) (C : Cf) (N : Nat → Nat) (S : St) (Qk : Nat → Int64) (k : Int) (hC : Cok C N) (h3 : R01 C N) (hW : Wk k S) (h0 : 0 ≤ k) (hk : k + 200000000 ≤ 1099511627776) (hE : Wel N S) (hn0 : N 0 ≤ 8) (hn1 : N 1 ≤ 3) (hn2 : N 2 ≤ 3) {p : Program} {e : Env} {s : State} {m : MethodId} {args : Array Value} {below : List Frame} {meth : Method} {c : Code} {A : Nat → Prop} (X : g_Cx p s m args c D A 29 cL_wells RL cI cJ cZ) (hr : meth.sig.returnType = none) (hlk : meth.locks = false) {Q : State → Prop} (hQ : MQ below (g_Post D A (g_eq none (wL y cI cJ C N (wlS C N S) Qk))) args s 0 0 A = Q) (S4 : St) (eS4 : S4 = itr (shW C N) S (N 0)) : g_G p l e rm_L_wells s m args below meth c D A 29 0 0 Q (wL y cI cJ C N S4 Qk) [(0, .ref (y 0)), (1, .ref (y 1)), (2, .ref (y 2)), (3, .ref (y 3)), (4, .ref (y 5)), (5, .ref (y 6)), (6, .ref (y 7)), (7, .ref (y 8)), (8, .ref (y 9)), (9, .ref (y 10)), (10, .ref (y 12)), (11, .int (nI (N 0)))] 174 [] := by
  have hN0 := hC.n0
  have hN1 := hC.n1
  have hN2 := hC.n2
  have hN0 := hC.n0
  have hN1 := hC.n1
  have hN2 := hC.n2
  have hA : Wk k S4 ∧ Wel N S4 := by rw [eS4]; exact sh_ok hW hE (N 0)
  refine g_lconst X (v := 0) dL_wells_174 (by decide +kernel) ?_
  refine g_lstore X [(11, .long (0 : Int64)), (0, .ref (y 0)), (1, .ref (y 1)), (2, .ref (y 2)), (3, .ref (y 3)), (4, .ref (y 5)), (5, .ref (y 6)), (6, .ref (y 7)), (7, .ref (y 8)), (8, .ref (y 9)), (9, .ref (y 10)), (10, .ref (y 12))] dL_wells_175 (Nat.le_of_ble_eq_true rfl) rfl ?_
  refine g_lconst X (v := 0) dL_wells_177 (by decide +kernel) ?_
  refine g_lstore X [(13, .long (0 : Int64)), (11, .long (0 : Int64)), (0, .ref (y 0)), (1, .ref (y 1)), (2, .ref (y 2)), (3, .ref (y 3)), (4, .ref (y 5)), (5, .ref (y 6)), (6, .ref (y 7)), (7, .ref (y 8)), (8, .ref (y 9)), (9, .ref (y 10)), (10, .ref (y 12))] dL_wells_178 (Nat.le_of_ble_eq_true rfl) rfl ?_
  refine g_lconst X (v := 0) dL_wells_180 (by decide +kernel) ?_
  refine g_lstore X [(15, .long (0 : Int64)), (13, .long (0 : Int64)), (11, .long (0 : Int64)), (0, .ref (y 0)), (1, .ref (y 1)), (2, .ref (y 2)), (3, .ref (y 3)), (4, .ref (y 5)), (5, .ref (y 6)), (6, .ref (y 7)), (7, .ref (y 8)), (8, .ref (y 9)), (9, .ref (y 10)), (10, .ref (y 12))] dL_wells_181 (Nat.le_of_ble_eq_true rfl) rfl ?_
  refine g_iconst X (v := nI 0) dL_wells_183 (by decide +kernel) ?_
  refine g_istore X [(17, .int (nI 0)), (15, .long (0 : Int64)), (13, .long (0 : Int64)), (11, .long (0 : Int64)), (0, .ref (y 0)), (1, .ref (y 1)), (2, .ref (y 2)), (3, .ref (y 3)), (4, .ref (y 5)), (5, .ref (y 6)), (6, .ref (y 7)), (7, .ref (y 8)), (8, .ref (y 9)), (9, .ref (y 10)), (10, .ref (y 12))] dL_wells_184 (Nat.le_of_ble_eq_true rfl) rfl ?_
  have L7 : ∀ (n9 i8 : Nat) (S10 : St) (a11 : Int64) (a12 : Int64) (a13 : Int64), i8 + n9 = (N 0) → S10 = itr (dwS C N) S4 i8 → a11 = brn C N S4 i8 → a12 = brh C N S4 i8 → a13 = wgt C S4 i8 → g_G p l e rm_L_wells s m args below meth c D A 29 0 0 Q (wL y cI cJ C N S10 Qk) [(0, .ref (y 0)), (1, .ref (y 1)), (2, .ref (y 2)), (3, .ref (y 3)), (4, .ref (y 5)), (5, .ref (y 6)), (6, .ref (y 7)), (7, .ref (y 8)), (8, .ref (y 9)), (9, .ref (y 10)), (10, .ref (y 12)), (11, .long a11), (13, .long a12), (15, .long a13), (17, .int (nI i8))] 186 [] := by
    intro n9
    induction n9 with
    | zero =>
      intro i8 S10 a11 a12 a13 hi14 eS10 ea11 ea12 ea13
      obtain rfl : i8 = (N 0) := by omega
      refine g_iload X 14 dL_wells_186 rfl ?_
      refine g_aload X 10 dL_wells_188 rfl ?_
      refine g_iconst X (v := nI 1) dL_wells_190 (by decide +kernel) ?_
      refine g_iald X 12 rfl (1) rfl (by omega) (Nat.le_of_ble_eq_true rfl) (v := nI (N 0)) rfl dL_wells_191 ?_
      refine g_icN_ge X (a := (N 0)) (b := N 0) (tgt := 704) (by omega) (by omega) dL_wells_192 (by decide) (fun h15 => ?_) (fun h15 => absurd h15 (by omega))
      exact n_L_wells_704 l D cI cJ cZ y C N S Qk k hC h3 hW h0 hk hE hn0 hn1 hn2 X hr hlk hQ S4 eS4 S10 eS10 a11 ea11 a12 ea12 a13 ea13
    | succ n9 ihL7 =>
      intro i8 S10 a11 a12 a13 hi14 eS10 ea11 ea12 ea13
      have hlti8 : i8 < (N 0) := by omega
      have hD := dw_ok C N S4 k hC hA.1 (by omega) hA.2 i8 (by omega)
      rw [← eS10] at hD
      have hpl := (hC.pl hlti8).2
      have hm := hC.mu hlti8
      have hm2 := hm.2
      have hs4 := hD.2.1 i8 hlti8
      have hs42 := hs4.2
      have hmc := n_mul hm.2 (show 100 - scN S10 i8 ≤ 100 by omega)
      have h8 := hD.2.2.1 i8 hlti8
      have hdx := drx_m (C := C) hm.2 (hD.1 _ hpl).1
      have hdo := drW_ok (C := C) (S := S10) (w := i8) hm.2 (hD.1 _ hpl).1
      refine g_iload X 14 dL_wells_186 rfl ?_
      refine g_aload X 10 dL_wells_188 rfl ?_
      refine g_iconst X (v := nI 1) dL_wells_190 (by decide +kernel) ?_
      refine g_iald X 12 rfl (1) rfl (by omega) (Nat.le_of_ble_eq_true rfl) (v := nI (N 0)) rfl dL_wells_191 ?_
      refine g_icN_ge X (a := i8) (b := N 0) (tgt := 704) (by omega) (by omega) dL_wells_192 (by decide) (fun h59 => absurd h59 (by omega)) (fun h59 => ?_)
      refine g_aload X 4 dL_wells_195 rfl ?_
      refine g_bipush X (v := nI 7) dL_wells_197 (by decide +kernel) ?_
      refine g_iload X 14 dL_wells_199 rfl ?_
      refine g_imul X (v := nI (7 * i8)) dL_wells_201 (pk_mul _ _) ?_
      refine g_iald X 5 rfl (7 * i8) rfl (by omega) (Nat.le_of_ble_eq_true rfl) (v := nI (plN C i8)) ((lrE_0 C N S10 i8).trans (hC.pl (by omega)).1) dL_wells_202 ?_
      refine g_istore X [(18, .int (nI (plN C i8))), (0, .ref (y 0)), (1, .ref (y 1)), (2, .ref (y 2)), (3, .ref (y 3)), (4, .ref (y 5)), (5, .ref (y 6)), (6, .ref (y 7)), (7, .ref (y 8)), (8, .ref (y 9)), (9, .ref (y 10)), (10, .ref (y 12)), (11, .long a11), (13, .long a12), (15, .long a13), (17, .int (nI i8))] dL_wells_203 (Nat.le_of_ble_eq_true rfl) rfl ?_
      refine g_lload X 14 dL_wells_205 rfl ?_
      refine g_aload X 5 dL_wells_207 rfl ?_
      refine g_bipush X (v := nI 7) dL_wells_209 (by decide +kernel) ?_
      refine g_iload X 15 dL_wells_211 rfl ?_
      refine g_imul X (v := nI (7 * i8)) dL_wells_213 (pk_mul _ _) ?_
      refine g_iconst X (v := nI 1) dL_wells_214 (by decide +kernel) ?_
      refine g_iadd X (v := nI (7 * i8 + 1)) dL_wells_215 ((nI_add _ _).trans (congrArg nI (by omega))) ?_
      refine g_iald X 5 rfl (7 * i8 + 1) rfl (by omega) (Nat.le_of_ble_eq_true rfl) (v := C 3 i8) (lrE_1 C N S10 i8) dL_wells_216 ?_
      refine g_iconst X (v := nI 1) dL_wells_217 (by decide +kernel) ?_
      have J63 : ∀ (v62 : Int64), v62 = (if ¬ (C 3 i8) = (nI 1) then (0 : Int64) else if ¬ ((S10 6 i8).toInt32) = 0 then (0 : Int64) else (C 4 i8).toInt64) → g_G p l e rm_L_wells s m args below meth c D A 29 0 0 Q (wL y cI cJ C N S10 Qk) [(0, .ref (y 0)), (1, .ref (y 1)), (2, .ref (y 2)), (3, .ref (y 3)), (4, .ref (y 5)), (5, .ref (y 6)), (6, .ref (y 7)), (7, .ref (y 8)), (8, .ref (y 9)), (9, .ref (y 10)), (10, .ref (y 12)), (11, .long a11), (13, .long a12), (17, .int (nI i8)), (18, .int (nI (plN C i8)))] 249 [.long v62, .long a13] := by
        intro v62 ev62
        obtain ⟨x64, ex64⟩ : ∃ z : Int64, z = v62 := ⟨_, rfl⟩
        refine g_st (st' := [.long x64, .long a13]) (by rw [ex64]; first | done | rfl) ?_
        refine g_ladd X (v := a13 + x64) dL_wells_249 rfl ?_
        refine g_lstore X [(15, .long (a13 + x64)), (0, .ref (y 0)), (1, .ref (y 1)), (2, .ref (y 2)), (3, .ref (y 3)), (4, .ref (y 5)), (5, .ref (y 6)), (6, .ref (y 7)), (7, .ref (y 8)), (8, .ref (y 9)), (9, .ref (y 10)), (10, .ref (y 12)), (11, .long a11), (13, .long a12), (17, .int (nI i8)), (18, .int (nI (plN C i8)))] dL_wells_250 (Nat.le_of_ble_eq_true rfl) rfl ?_
        refine g_aload X 5 dL_wells_252 rfl ?_
        refine g_bipush X (v := nI 7) dL_wells_254 (by decide +kernel) ?_
        refine g_iload X 14 dL_wells_256 rfl ?_
        refine g_imul X (v := nI (7 * i8)) dL_wells_258 (pk_mul _ _) ?_
        refine g_iconst X (v := nI 1) dL_wells_259 (by decide +kernel) ?_
        refine g_iadd X (v := nI (7 * i8 + 1)) dL_wells_260 ((nI_add _ _).trans (congrArg nI (by omega))) ?_
        refine g_iald X 5 rfl (7 * i8 + 1) rfl (by omega) (Nat.le_of_ble_eq_true rfl) (v := C 3 i8) (lrE_1 C N S10 i8) dL_wells_261 ?_
        refine g_if_ne X (tgt := 698) dL_wells_262 (by decide) (fun h65 => ?_) (fun h65 => ?_)
        · --
          refine g_iinc X [(17, .int (nI (i8 + 1))), (15, .long (a13 + x64)), (0, .ref (y 0)), (1, .ref (y 1)), (2, .ref (y 2)), (3, .ref (y 3)), (4, .ref (y 5)), (5, .ref (y 6)), (6, .ref (y 7)), (7, .ref (y 8)), (8, .ref (y 9)), (9, .ref (y 10)), (10, .ref (y 12)), (11, .long a11), (13, .long a12), (18, .int (nI (plN C i8)))] (q := 14) (v := nI (i8 + 1)) dL_wells_698 rfl ((congrArg (fun z => nI (i8) + z) (show Int32.ofInt 1 = nI 1 by decide +kernel)).trans ((nI_add _ _).trans (congrArg nI (by omega)))) (Nat.le_of_ble_eq_true rfl) rfl ?_
          refine g_goto X (tgt := 186) dL_wells_701 (by decide) ?_
          refine g_lv _ [2, 3, 4, 5, 6, 7, 8, 9, 10, 11, 12, 13, 14, 1, 0] rfl ?_
          exact ihL7 (i8 + 1) _ _ _ _ (by omega) (by show _ = dwS C N i8 (itr (dwS C N) S4 i8); rw [← eS10]; unfold dwS; rw [if_pos (dwS_n1 (N := N) h65)]) (by rw [brn_s, ← eS10, if_pos (dwS_n1 (N := N) h65)]; exact ea11) (by rw [brh_s, ← eS10, if_pos (dwS_n1 (N := N) h65)]; exact ea12) (by rw [ex64, ev62, ea13, eS10]; exact (wgt_l h3 (by omega) _).trans (by rw [ret_dw]; rfl))
        · --
          refine g_aload X 5 dL_wells_265 rfl ?_
          refine g_bipush X (v := nI 7) dL_wells_267 (by decide +kernel) ?_
          refine g_iload X 14 dL_wells_269 rfl ?_
          refine g_imul X (v := nI (7 * i8)) dL_wells_271 (pk_mul _ _) ?_
          refine g_iconst X (v := nI 5) dL_wells_272 (by decide +kernel) ?_
          refine g_iadd X (v := nI (7 * i8 + 5)) dL_wells_273 ((nI_add _ _).trans (congrArg nI (by omega))) ?_
          refine g_iald X 5 rfl (7 * i8 + 5) rfl (by omega) (Nat.le_of_ble_eq_true rfl) (v := (S10 6 i8).toInt32) (lrE_5 C N S10 i8) dL_wells_274 ?_
          refine g_if_ne X (tgt := 698) dL_wells_275 (by decide) (fun h66 => ?_) (fun h66 => ?_)
          · --
            refine g_iinc X [(17, .int (nI (i8 + 1))), (15, .long (a13 + x64)), (0, .ref (y 0)), (1, .ref (y 1)), (2, .ref (y 2)), (3, .ref (y 3)), (4, .ref (y 5)), (5, .ref (y 6)), (6, .ref (y 7)), (7, .ref (y 8)), (8, .ref (y 9)), (9, .ref (y 10)), (10, .ref (y 12)), (11, .long a11), (13, .long a12), (18, .int (nI (plN C i8)))] (q := 14) (v := nI (i8 + 1)) dL_wells_698 rfl ((congrArg (fun z => nI (i8) + z) (show Int32.ofInt 1 = nI 1 by decide +kernel)).trans ((nI_add _ _).trans (congrArg nI (by omega)))) (Nat.le_of_ble_eq_true rfl) rfl ?_
            refine g_goto X (tgt := 186) dL_wells_701 (by decide) ?_
            refine g_lv _ [2, 3, 4, 5, 6, 7, 8, 9, 10, 11, 12, 13, 14, 1, 0] rfl ?_
            exact ihL7 (i8 + 1) _ _ _ _ (by omega) (by show _ = dwS C N i8 (itr (dwS C N) S4 i8); rw [← eS10]; unfold dwS; rw [if_pos (dwS_n2 (N := N) h66)]) (by rw [brn_s, ← eS10, if_pos (dwS_n2 (N := N) h66)]; exact ea11) (by rw [brh_s, ← eS10, if_pos (dwS_n2 (N := N) h66)]; exact ea12) (by rw [ex64, ev62, ea13, eS10]; exact (wgt_l h3 (by omega) _).trans (by rw [ret_dw]; rfl))
          · --
            refine g_aload X 5 dL_wells_278 rfl ?_
            refine g_bipush X (v := nI 7) dL_wells_280 (by decide +kernel) ?_
            refine g_iload X 14 dL_wells_282 rfl ?_
            refine g_imul X (v := nI (7 * i8)) dL_wells_284 (pk_mul _ _) ?_
            refine g_iconst X (v := nI 2) dL_wells_285 (by decide +kernel) ?_
            refine g_iadd X (v := nI (7 * i8 + 2)) dL_wells_286 ((nI_add _ _).trans (congrArg nI (by omega))) ?_
            refine g_iald X 5 rfl (7 * i8 + 2) rfl (by omega) (Nat.le_of_ble_eq_true rfl) (v := nI (muN C i8)) ((lrE_2 C N S10 i8).trans hm.1) dL_wells_287 ?_
            refine g_bipush X (v := nI 100) dL_wells_288 (by decide +kernel) ?_
            refine g_aload X 5 dL_wells_290 rfl ?_
            refine g_bipush X (v := nI 7) dL_wells_292 (by decide +kernel) ?_
            refine g_iload X 14 dL_wells_294 rfl ?_
            refine g_imul X (v := nI (7 * i8)) dL_wells_296 (pk_mul _ _) ?_
            refine g_iconst X (v := nI 3) dL_wells_297 (by decide +kernel) ?_
            refine g_iadd X (v := nI (7 * i8 + 3)) dL_wells_298 ((nI_add _ _).trans (congrArg nI (by omega))) ?_
            refine g_iald X 5 rfl (7 * i8 + 3) rfl (by omega) (Nat.le_of_ble_eq_true rfl) (v := nI (scN S10 i8)) ((lrE_3 C N S10 i8).trans (by rw [hs4.1]; exact lN_i _)) dL_wells_299 ?_
            refine g_isub X (v := nI (100 - (scN S10 i8))) dL_wells_300 (pk_sub (by omega)) ?_
            refine g_imul X (v := nI ((muN C i8) * (100 - (scN S10 i8)))) dL_wells_301 (pk_mul _ _) ?_
            refine g_bipush X (v := nI 100) dL_wells_302 (by decide +kernel) ?_
            refine g_idiv X (v := nI (muN C i8 * (100 - scN S10 i8) / 100)) dL_wells_304 (by decide +kernel) (pk_div hmc (by decide) (by decide)) ?_
            refine g_i2l X (v := wd C S10 i8) dL_wells_305 (nI_l (by omega)) ?_
            refine g_lstore X [(19, .long (wd C S10 i8)), (15, .long (a13 + x64)), (0, .ref (y 0)), (1, .ref (y 1)), (2, .ref (y 2)), (3, .ref (y 3)), (4, .ref (y 5)), (5, .ref (y 6)), (6, .ref (y 7)), (7, .ref (y 8)), (8, .ref (y 9)), (9, .ref (y 10)), (10, .ref (y 12)), (11, .long a11), (13, .long a12), (17, .int (nI i8)), (18, .int (nI (plN C i8)))] dL_wells_306 (Nat.le_of_ble_eq_true rfl) rfl ?_
            refine g_lload X 0 dL_wells_308 rfl ?_
            refine g_aload_n X 2 dL_wells_310 rfl rfl ?_
            refine g_iload X 16 dL_wells_311 rfl ?_
            refine g_lald X 0 rfl (plN C i8) rfl (by omega) (Nat.le_of_ble_eq_true rfl) (v := S10 0 (plN C i8)) rfl dL_wells_313 ?_
            refine g_ldc2 X kL_L_28 dL_wells_314 ?_
            refine g_ldiv X (v := (S10 0 (plN C i8)) / (10 : Int64)) dL_wells_317 (by decide +kernel) rfl ?_
            have J69 : ∀ (v68 : Int64), v68 = (if ((S10 0 (plN C i8)) / (10 : Int64)) ≤ (wd C S10 i8) then (S10 0 (plN C i8)) / (10 : Int64) else wd C S10 i8) → g_G p l e rm_L_wells s m args below meth c D A 29 0 0 Q (wL y cI cJ C N S10 Qk) [(0, .ref (y 0)), (1, .ref (y 1)), (2, .ref (y 2)), (3, .ref (y 3)), (4, .ref (y 5)), (5, .ref (y 6)), (6, .ref (y 7)), (7, .ref (y 8)), (8, .ref (y 9)), (9, .ref (y 10)), (10, .ref (y 12)), (11, .long a11), (13, .long a12), (15, .long (a13 + x64)), (17, .int (nI i8)), (18, .int (nI (plN C i8)))] 335 [.long v68] := by
              intro v68 ev68
              replace ev68 := ev68.trans (show _ = drW C S10 i8 from lsr_m _ _)
              refine g_lstore X [(19, .long v68), (0, .ref (y 0)), (1, .ref (y 1)), (2, .ref (y 2)), (3, .ref (y 3)), (4, .ref (y 5)), (5, .ref (y 6)), (6, .ref (y 7)), (7, .ref (y 8)), (8, .ref (y 9)), (9, .ref (y 10)), (10, .ref (y 12)), (11, .long a11), (13, .long a12), (15, .long (a13 + x64)), (17, .int (nI i8)), (18, .int (nI (plN C i8)))] dL_wells_335 (Nat.le_of_ble_eq_true rfl) rfl ?_
              refine g_iload X 16 dL_wells_337 rfl ?_
              refine g_aload_n X 1 dL_wells_339 rfl rfl ?_
              refine g_aload_n X 2 dL_wells_340 rfl rfl ?_
              refine g_callS X (As := [.int (nI (plN C i8)), .ref (y 0), .ref (y 1)]) (rest := []) (m_L_hot l D cI cJ cZ y C N S10 Qk (plN C i8) hpl ((hD.1.ok (by omega)).ne hpl)) kM_L_18 kT_yL_hot kZ_RL kC_yL_hot hV_L_hot rfl rfl rfl ⟨Nat.le_of_ble_eq_true rfl, Nat.le_of_ble_eq_true rfl⟩ ⟨Nat.le_of_ble_eq_true rfl, Nat.le_of_ble_eq_true rfl⟩ (Nat.le_of_ble_eq_true rfl) dL_wells_341 rfl [0, 1, 2, 3, 4, 5, 6, 7, 8, 9, 10, 11, 12] rfl rfl (g_kk1 (w2 := wL y cI cJ C N S10 Qk) ⟨[0, 1, 2, 3, 4, 5, 6, 7, 8, 9, 10, 11, 12], [], [0, 1, 2, 3, 4, 5, 6, 7, 8, 9, 10, 11, 12], [], rfl, rfl, rfl, rfl, by decide, rfl, rfl⟩ ?_)
              obtain ⟨x70, ex70⟩ : ∃ z : Int64, z = deg S10 (plN C i8) := ⟨_, rfl⟩
              refine g_st (st' := [.long x70]) (by rw [ex70]; first | done | rfl) ?_
              refine g_lstore X [(21, .long x70), (19, .long v68), (0, .ref (y 0)), (1, .ref (y 1)), (2, .ref (y 2)), (3, .ref (y 3)), (4, .ref (y 5)), (5, .ref (y 6)), (6, .ref (y 7)), (7, .ref (y 8)), (8, .ref (y 9)), (9, .ref (y 10)), (10, .ref (y 12)), (11, .long a11), (13, .long a12), (15, .long (a13 + x64)), (17, .int (nI i8)), (18, .int (nI (plN C i8)))] dL_wells_344 (Nat.le_of_ble_eq_true rfl) rfl ?_
              refine g_iload X 17 dL_wells_346 rfl ?_
              refine g_lload X 1 dL_wells_348 rfl ?_
              refine g_aload_n X 2 dL_wells_350 rfl rfl ?_
              refine g_aload_n X 3 dL_wells_351 rfl rfl ?_
              refine g_aload_n X 4 dL_wells_352 rfl rfl ?_
              obtain ⟨S71, eS71⟩ : ∃ z : St, z = giveS S10 (plN C i8) v68 := ⟨_, rfl⟩
              refine g_callS X (As := [.int (nI (plN C i8)), .long v68, .ref (y 0), .ref (y 1), .ref (y 2)]) (rest := []) (m_L_gives l D cI cJ cZ y C N S10 Qk (plN C i8) v68 hpl (hD.1.ok (by omega)) (by rw [ev68]; exact hdx)) kM_L_30 kT_yL_gives kZ_RL kC_yL_gives hV_L_gives rfl rfl rfl ⟨Nat.le_of_ble_eq_true rfl, Nat.le_of_ble_eq_true rfl⟩ ⟨Nat.le_of_ble_eq_true rfl, Nat.le_of_ble_eq_true rfl⟩ (Nat.le_of_ble_eq_true rfl) dL_wells_353 rfl [0, 1, 2, 3, 4, 5, 6, 7, 8, 9, 10, 11, 12] rfl rfl (g_kk1 (w2 := wL y cI cJ C N S71 Qk) (by rw [eS71]; exact ⟨[0, 1, 2, 3, 4, 5, 6, 7, 8, 9, 10, 11, 12], [], [0, 1, 2, 3, 4, 5, 6, 7, 8, 9, 10, 11, 12], [], rfl, rfl, rfl, rfl, by decide, rfl, rfl⟩) ?_)
              obtain ⟨x72, ex72⟩ : ∃ z : Int64, z = gone S10 (plN C i8) v68 := ⟨_, rfl⟩
              refine g_st (st' := [.long x72]) (by rw [ex72]; first | done | rfl) ?_
              refine g_lstore X [(23, .long x72), (21, .long x70), (19, .long v68), (0, .ref (y 0)), (1, .ref (y 1)), (2, .ref (y 2)), (3, .ref (y 3)), (4, .ref (y 5)), (5, .ref (y 6)), (6, .ref (y 7)), (7, .ref (y 8)), (8, .ref (y 9)), (9, .ref (y 10)), (10, .ref (y 12)), (11, .long a11), (13, .long a12), (15, .long (a13 + x64)), (17, .int (nI i8)), (18, .int (nI (plN C i8)))] dL_wells_356 (Nat.le_of_ble_eq_true rfl) rfl ?_
              refine g_aload X 8 dL_wells_358 rfl ?_
              refine g_iload X 17 dL_wells_360 rfl ?_
              refine g_dup2_11 X dL_wells_362 rfl rfl ?_
              refine g_lald X 6 rfl (i8) rfl (by omega) (Nat.le_of_ble_eq_true rfl) (v := S71 7 i8) rfl dL_wells_363 ?_
              refine g_lload X 0 dL_wells_364 rfl ?_
              refine g_ladd X (v := (S71 7 i8) + x72) dL_wells_366 rfl ?_
              obtain ⟨S73, eS73⟩ : ∃ z : St, z = u2 S71 7 i8 ((S71 7 i8) + x72) := ⟨_, rfl⟩
              refine g_last X (ws' := wL y cI cJ C N S73 Qk) 6 rfl (i8) rfl (by omega) (Nat.le_of_ble_eq_true rfl) dL_wells_367 (by rw [eS73]; first | done | (rfl)) ?_
              refine g_aload X 7 dL_wells_368 rfl ?_
              refine g_bipush X (v := nI 7) dL_wells_370 (by decide +kernel) ?_
              refine g_iload X 17 dL_wells_372 rfl ?_
              refine g_imul X (v := nI (7 * i8)) dL_wells_374 (pk_mul _ _) ?_
              refine g_bipush X (v := nI 6) dL_wells_375 (by decide +kernel) ?_
              refine g_iadd X (v := nI (7 * i8 + 6)) dL_wells_377 ((nI_add _ _).trans (congrArg nI (by omega))) ?_
              refine g_lload X 0 dL_wells_378 rfl ?_
              refine g_lconst X (v := 0) dL_wells_380 (by decide +kernel) ?_
              have J77 : ∀ (v76 : Int32), v76 = (if x72 ≤ (0 : Int64) then (S73 8 i8).toInt32 + 1 else if ¬ ((S73 8 i8).toInt32 + 1) = 0 then (S73 8 i8).toInt32 + 1 else ((S73 13 0).toInt32) + (nI 1)) → g_G p l e rm_L_wells s m args below meth c D A 29 0 0 Q (wL y cI cJ C N S73 Qk) [(0, .ref (y 0)), (1, .ref (y 1)), (2, .ref (y 2)), (3, .ref (y 3)), (4, .ref (y 5)), (5, .ref (y 6)), (6, .ref (y 7)), (7, .ref (y 8)), (8, .ref (y 9)), (9, .ref (y 10)), (10, .ref (y 12)), (11, .long a11), (13, .long a12), (15, .long (a13 + x64)), (17, .int (nI i8)), (18, .int (nI (plN C i8))), (19, .long v68), (21, .long x70)] 419 [.int v76, .int (nI (7 * i8 + 6)), .ref (y 5)] := by
                intro v76 ev76
                obtain ⟨S78, eS78⟩ : ∃ z : St, z = u2 S73 8 i8 (if x72 ≤ 0 then S73 8 i8 else if ¬ S73 8 i8 = -1 then S73 8 i8 else S73 13 0) := ⟨_, rfl⟩
                refine g_iast X (ws' := wL y cI cJ C N S78 Qk) 5 rfl (7 * i8 + 6) rfl (by omega) (Nat.le_of_ble_eq_true rfl) dL_wells_419 (by rw [eS78]; first | done | (rw [lrE_w6 _ _ _ (k := i8) (by omega) (v := (if x72 ≤ 0 then S73 8 i8 else if ¬ S73 8 i8 = -1 then S73 8 i8 else S73 13 0)) ((e8_m (T := S73) (by rw [eS73, eS71]; exact h8)).trans ev76.symm)]; rfl)) ?_
                replace eS78 : S78 = dM1 S10 (plN C i8) i8 v68 := by rw [eS78]; (try rw [eS73]); (try rw [eS71]); first | done | (first | rfl | (rw [ex72]; rfl))
                refine g_lload X 17 dL_wells_420 rfl ?_
                refine g_ldc2 X kL_L_34 dL_wells_422 ?_
                have J84 : ∀ (v83 : Int64), v83 = (if (101 : Int64) ≤ x70 then (v68 * ((if x70 ≤ (300 : Int64) then x70 - (100 : Int64) else (200 : Int64)))) / (400 : Int64) else (0 : Int64)) → g_G p l e rm_L_wells s m args below meth c D A 29 0 0 Q (wL y cI cJ C N S78 Qk) [(0, .ref (y 0)), (1, .ref (y 1)), (2, .ref (y 2)), (3, .ref (y 3)), (4, .ref (y 5)), (5, .ref (y 6)), (6, .ref (y 7)), (7, .ref (y 8)), (8, .ref (y 9)), (9, .ref (y 10)), (10, .ref (y 12)), (11, .long a11), (13, .long a12), (15, .long (a13 + x64)), (17, .int (nI i8)), (18, .int (nI (plN C i8))), (19, .long v68), (21, .long x70)] 461 [.long v83] := by
                  intro v83 ev83
                  replace ev83 := ev83.trans (show _ = stm v68 x70 from stl_m _ _)
                  refine g_lstore X [(25, .long v83), (0, .ref (y 0)), (1, .ref (y 1)), (2, .ref (y 2)), (3, .ref (y 3)), (4, .ref (y 5)), (5, .ref (y 6)), (6, .ref (y 7)), (7, .ref (y 8)), (8, .ref (y 9)), (9, .ref (y 10)), (10, .ref (y 12)), (11, .long a11), (13, .long a12), (15, .long (a13 + x64)), (17, .int (nI i8)), (18, .int (nI (plN C i8))), (19, .long v68), (21, .long x70)] dL_wells_461 (Nat.le_of_ble_eq_true rfl) rfl ?_
                  refine g_lload X 12 dL_wells_463 rfl ?_
                  refine g_lload X 17 dL_wells_465 rfl ?_
                  refine g_lload X 0 dL_wells_467 rfl ?_
                  refine g_lsub X (v := v68 - v83) dL_wells_469 rfl ?_
                  refine g_ladd X (v := a11 + (v68 - v83)) dL_wells_470 rfl ?_
                  refine g_lstore X [(11, .long (a11 + (v68 - v83))), (25, .long v83), (0, .ref (y 0)), (1, .ref (y 1)), (2, .ref (y 2)), (3, .ref (y 3)), (4, .ref (y 5)), (5, .ref (y 6)), (6, .ref (y 7)), (7, .ref (y 8)), (8, .ref (y 9)), (9, .ref (y 10)), (10, .ref (y 12)), (13, .long a12), (15, .long (a13 + x64)), (17, .int (nI i8)), (18, .int (nI (plN C i8))), (19, .long v68), (21, .long x70)] dL_wells_471 (Nat.le_of_ble_eq_true rfl) rfl ?_
                  refine g_lload X 13 dL_wells_473 rfl ?_
                  refine g_lload X 17 dL_wells_475 rfl ?_
                  refine g_lload X 1 dL_wells_477 rfl ?_
                  refine g_lsub X (v := v68 - v83) dL_wells_479 rfl ?_
                  refine g_lload X 18 dL_wells_480 rfl ?_
                  refine g_ldc2 X kL_L_40 dL_wells_482 ?_
                  have J87 : ∀ (v86 : Int64), v86 = (if x70 ≤ (100 : Int64) then x70 else (100 : Int64)) → g_G p l e rm_L_wells s m args below meth c D A 29 0 0 Q (wL y cI cJ C N S78 Qk) [(0, .ref (y 0)), (1, .ref (y 1)), (2, .ref (y 2)), (3, .ref (y 3)), (4, .ref (y 5)), (5, .ref (y 6)), (6, .ref (y 7)), (7, .ref (y 8)), (8, .ref (y 9)), (9, .ref (y 10)), (10, .ref (y 12)), (11, .long (a11 + (v68 - v83))), (15, .long (a13 + x64)), (17, .int (nI i8)), (18, .int (nI (plN C i8))), (19, .long v68), (21, .long x70), (25, .long v83)] 497 [.long v86, .long (v68 - v83), .long a12] := by
                    intro v86 ev86
                    obtain ⟨x88, ex88⟩ : ∃ z : Int64, z = v86 := ⟨_, rfl⟩
                    refine g_st (st' := [.long x88, .long (v68 - v83), .long a12]) (by rw [ex88]; first | done | rfl) ?_
                    refine g_lmul X (v := (v68 - v83) * x88) dL_wells_497 rfl ?_
                    refine g_ladd X (v := a12 + ((v68 - v83) * x88)) dL_wells_498 rfl ?_
                    refine g_lstore X [(13, .long (a12 + ((v68 - v83) * x88))), (0, .ref (y 0)), (1, .ref (y 1)), (2, .ref (y 2)), (3, .ref (y 3)), (4, .ref (y 5)), (5, .ref (y 6)), (6, .ref (y 7)), (7, .ref (y 8)), (8, .ref (y 9)), (9, .ref (y 10)), (10, .ref (y 12)), (11, .long (a11 + (v68 - v83))), (15, .long (a13 + x64)), (17, .int (nI i8)), (18, .int (nI (plN C i8))), (19, .long v68), (21, .long x70), (25, .long v83)] dL_wells_499 (Nat.le_of_ble_eq_true rfl) rfl ?_
                    refine g_aload X 10 dL_wells_501 rfl ?_
                    refine g_iconst X (v := nI 1) dL_wells_503 (by decide +kernel) ?_
                    refine g_dup2_11 X dL_wells_504 rfl rfl ?_
                    refine g_lald X 10 rfl (1) rfl (by omega) (Nat.le_of_ble_eq_true rfl) (v := S78 12 1) rfl dL_wells_505 ?_
                    refine g_lload X 18 dL_wells_506 rfl ?_
                    refine g_ladd X (v := (S78 12 1) + v83) dL_wells_508 rfl ?_
                    obtain ⟨S89, eS89⟩ : ∃ z : St, z = u2 S78 12 1 ((S78 12 1) + v83) := ⟨_, rfl⟩
                    refine g_last X (ws' := wL y cI cJ C N S89 Qk) 10 rfl (1) rfl (by omega) (Nat.le_of_ble_eq_true rfl) dL_wells_509 (by rw [eS89]; first | done | (rfl)) ?_
                    refine g_aload X 10 dL_wells_510 rfl ?_
                    refine g_bipush X (v := nI 6) dL_wells_512 (by decide +kernel) ?_
                    refine g_dup2_11 X dL_wells_514 rfl rfl ?_
                    refine g_lald X 10 rfl (6) rfl (by omega) (Nat.le_of_ble_eq_true rfl) (v := S78 12 6) (rfl.trans (by rw [eS89]; exact u2_ne _ _ _ (by decide))) dL_wells_515 ?_
                    refine g_lload X 18 dL_wells_516 rfl ?_
                    refine g_lload X 17 dL_wells_518 rfl ?_
                    refine g_ldc2 X kL_L_44 dL_wells_520 ?_
                    have J92 : ∀ (v91 : Int64), v91 = (if (60 : Int64) ≤ x70 then x70 - (60 : Int64) else (0 : Int64)) → g_G p l e rm_L_wells s m args below meth c D A 29 0 0 Q (wL y cI cJ C N S89 Qk) [(0, .ref (y 0)), (1, .ref (y 1)), (2, .ref (y 2)), (3, .ref (y 3)), (4, .ref (y 5)), (5, .ref (y 6)), (6, .ref (y 7)), (7, .ref (y 8)), (8, .ref (y 9)), (9, .ref (y 10)), (10, .ref (y 12)), (11, .long (a11 + (v68 - v83))), (13, .long (a12 + ((v68 - v83) * x88))), (15, .long (a13 + x64)), (17, .int (nI i8)), (18, .int (nI (plN C i8))), (19, .long v68), (21, .long x70)] 537 [.long v91, .long v83, .long (S78 12 6), .int (nI 6), .ref (y 10)] := by
                      intro v91 ev91
                      refine g_lmul X (v := v83 * v91) dL_wells_537 rfl ?_
                      refine g_ldc2 X kL_L_28 dL_wells_538 ?_
                      refine g_ldiv X (v := if x70 ≤ 60 then 0 else stm v68 x70 * (x70 - 60) / 10) dL_wells_541 (by decide +kernel) (by rw [ev83, ev91]; exact st6_m _ _) ?_
                      refine g_ladd X (v := (S78 12 6) + (if x70 ≤ 60 then 0 else stm v68 x70 * (x70 - 60) / 10)) dL_wells_542 rfl ?_
                      obtain ⟨S93, eS93⟩ : ∃ z : St, z = u2 S89 12 6 ((S78 12 6) + (if x70 ≤ 60 then 0 else stm v68 x70 * (x70 - 60) / 10)) := ⟨_, rfl⟩
                      refine g_last X (ws' := wL y cI cJ C N S93 Qk) 10 rfl (6) rfl (by omega) (Nat.le_of_ble_eq_true rfl) dL_wells_543 (by rw [eS93]; first | done | (rfl)) ?_
                      refine g_aload X 9 dL_wells_544 rfl ?_
                      refine g_bipush X (v := nI 7) dL_wells_546 (by decide +kernel) ?_
                      refine g_dup2_11 X dL_wells_548 rfl rfl ?_
                      refine g_lald X 10 rfl (7) rfl (by omega) (Nat.le_of_ble_eq_true rfl) (v := S78 12 7) (rfl.trans (by rw [eS93, eS89]; exact (u2_ne _ _ _ (by decide)).trans (u2_ne _ _ _ (by decide)))) dL_wells_549 ?_
                      refine g_lload X 16 dL_wells_550 rfl ?_
                      refine g_lload X 17 dL_wells_552 rfl ?_
                      refine g_lmul X (v := v68 * x70) dL_wells_554 rfl ?_
                      refine g_ladd X (v := (S78 12 7) + (v68 * x70)) dL_wells_555 rfl ?_
                      obtain ⟨S94, eS94⟩ : ∃ z : St, z = u2 S93 12 7 ((S78 12 7) + (v68 * x70)) := ⟨_, rfl⟩
                      refine g_last X (ws' := wL y cI cJ C N S94 Qk) 10 rfl (7) rfl (by omega) (Nat.le_of_ble_eq_true rfl) dL_wells_556 (by rw [eS94]; first | done | (rfl)) ?_
                      refine g_aload X 4 dL_wells_557 rfl ?_
                      refine g_bipush X (v := nI 7) dL_wells_559 (by decide +kernel) ?_
                      refine g_iload X 14 dL_wells_561 rfl ?_
                      refine g_imul X (v := nI (7 * i8)) dL_wells_563 (pk_mul _ _) ?_
                      refine g_iconst X (v := nI 4) dL_wells_564 (by decide +kernel) ?_
                      refine g_iadd X (v := nI (7 * i8 + 4)) dL_wells_565 ((nI_add _ _).trans (congrArg nI (by omega))) ?_
                      refine g_lload X 16 dL_wells_566 rfl ?_
                      refine g_l2i X (v := v68.toInt32) dL_wells_568 rfl ?_
                      obtain ⟨S95, eS95⟩ : ∃ z : St, z = u2 S94 5 i8 v68 := ⟨_, rfl⟩
                      refine g_iast X (ws' := wL y cI cJ C N S95 Qk) 5 rfl (7 * i8 + 4) rfl (by omega) (Nat.le_of_ble_eq_true rfl) dL_wells_569 (by rw [eS95]; first | done | (rw [lrE_w4 _ _ _ i8 (v := v68) rfl]; rfl)) ?_
                      replace eS95 : S95 = dM2 S10 (plN C i8) i8 v68 x70 := by rw [eS95]; (try rw [eS94]); (try rw [eS93]); (try rw [eS89]); (try rw [eS78]); first | done | (rw [ev83]; rfl)
                      refine g_aload X 4 dL_wells_570 rfl ?_
                      refine g_bipush X (v := nI 7) dL_wells_572 (by decide +kernel) ?_
                      refine g_iload X 14 dL_wells_574 rfl ?_
                      refine g_imul X (v := nI (7 * i8)) dL_wells_576 (pk_mul _ _) ?_
                      refine g_iconst X (v := nI 3) dL_wells_577 (by decide +kernel) ?_
                      refine g_iadd X (v := nI (7 * i8 + 3)) dL_wells_578 ((nI_add _ _).trans (congrArg nI (by omega))) ?_
                      refine g_iald X 5 rfl (7 * i8 + 3) rfl (by omega) (Nat.le_of_ble_eq_true rfl) (v := (S95 4 i8).toInt32) (lrE_3 C N S95 i8) dL_wells_579 ?_
                      refine g_iconst X (v := nI 1) dL_wells_580 (by decide +kernel) ?_
                      refine g_iadd X (v := ((S95 4 i8).toInt32) + (nI 1)) dL_wells_581 rfl ?_
                      refine g_lload X 16 dL_wells_582 rfl ?_
                      refine g_l2i X (v := v68.toInt32) dL_wells_584 rfl ?_
                      refine g_sipush X (v := nI 500) dL_wells_585 (by decide +kernel) ?_
                      refine g_idiv X (v := v68.toInt32 / (nI 500)) dL_wells_588 (by decide +kernel) rfl ?_
                      refine g_iadd X (v := (((S95 4 i8).toInt32) + (nI 1)) + (v68.toInt32 / (nI 500))) dL_wells_589 rfl ?_
                      refine g_istore X [(27, .int ((((S95 4 i8).toInt32) + (nI 1)) + (v68.toInt32 / (nI 500)))), (0, .ref (y 0)), (1, .ref (y 1)), (2, .ref (y 2)), (3, .ref (y 3)), (4, .ref (y 5)), (5, .ref (y 6)), (6, .ref (y 7)), (7, .ref (y 8)), (8, .ref (y 9)), (9, .ref (y 10)), (10, .ref (y 12)), (11, .long (a11 + (v68 - v83))), (13, .long (a12 + ((v68 - v83) * x88))), (15, .long (a13 + x64)), (17, .int (nI i8)), (18, .int (nI (plN C i8))), (19, .long v68), (21, .long x70)] dL_wells_590 (Nat.le_of_ble_eq_true rfl) rfl ?_
                      refine g_aload X 5 dL_wells_592 rfl ?_
                      refine g_bipush X (v := nI 7) dL_wells_594 (by decide +kernel) ?_
                      refine g_iload X 15 dL_wells_596 rfl ?_
                      refine g_imul X (v := nI (7 * i8)) dL_wells_598 (pk_mul _ _) ?_
                      refine g_iconst X (v := nI 3) dL_wells_599 (by decide +kernel) ?_
                      refine g_iadd X (v := nI (7 * i8 + 3)) dL_wells_600 ((nI_add _ _).trans (congrArg nI (by omega))) ?_
                      refine g_lload X 18 dL_wells_601 rfl ?_
                      refine g_ldc2 X kL_L_46 dL_wells_603 ?_
                      have J100 : ∀ (v99 : Int32), v99 = (if x70 < (161 : Int64) then (S95 4 i8).toInt32 else if ¬ v68 = (0 : Int64) then if ((((S95 4 i8).toInt32) + (nI 1)) + (v68.toInt32 / (nI 500))) ≤ (nI 100) then (((S95 4 i8).toInt32) + (nI 1)) + (v68.toInt32 / (nI 500)) else nI 100 else (S95 4 i8).toInt32) → g_G p l e rm_L_wells s m args below meth c D A 29 0 0 Q (wL y cI cJ C N S95 Qk) [(0, .ref (y 0)), (1, .ref (y 1)), (2, .ref (y 2)), (3, .ref (y 3)), (4, .ref (y 5)), (5, .ref (y 6)), (6, .ref (y 7)), (7, .ref (y 8)), (8, .ref (y 9)), (9, .ref (y 10)), (10, .ref (y 12)), (11, .long (a11 + (v68 - v83))), (13, .long (a12 + ((v68 - v83) * x88))), (15, .long (a13 + x64)), (17, .int (nI i8)), (18, .int (nI (plN C i8))), (19, .long v68)] 644 [.int v99, .int (nI (7 * i8 + 3)), .ref (y 5)] := by
                        intro v99 ev99
                        obtain ⟨S101, eS101⟩ : ∃ z : St, z = u2 S95 4 i8 (if x70 ≤ 160 then S95 4 i8 else if v68 ≤ 0 then S95 4 i8 else (if S95 4 i8 + 1 + v68 / 500 < 100 then S95 4 i8 + 1 + v68 / 500 else 100)) := ⟨_, rfl⟩
                        refine g_iast X (ws' := wL y cI cJ C N S101 Qk) 5 rfl (7 * i8 + 3) rfl (by omega) (Nat.le_of_ble_eq_true rfl) dL_wells_644 (by rw [eS101]; first | done | (rw [lrE_w3 _ _ _ i8 (v := (if x70 ≤ 160 then S95 4 i8 else if v68 ≤ 0 then S95 4 i8 else (if S95 4 i8 + 1 + v68 / 500 < 100 then S95 4 i8 + 1 + v68 / 500 else 100))) ((sc_l (D := S95) (by rw [eS95]; exact d4_b hs4) (by rw [ev68]; exact ⟨hdo.1, hdo.2.2⟩)).trans ev99.symm)]; rfl)) ?_
                        replace eS101 : S101 = dM3 S10 (plN C i8) i8 v68 x70 := by rw [eS101]; (try rw [eS95]); first | done | exact dM3_l
                        refine g_iconst X (v := nI 0) dL_wells_645 (by decide +kernel) ?_
                        refine g_istore X [(28, .int (nI 0)), (0, .ref (y 0)), (1, .ref (y 1)), (2, .ref (y 2)), (3, .ref (y 3)), (4, .ref (y 5)), (5, .ref (y 6)), (6, .ref (y 7)), (7, .ref (y 8)), (8, .ref (y 9)), (9, .ref (y 10)), (10, .ref (y 12)), (11, .long (a11 + (v68 - v83))), (13, .long (a12 + ((v68 - v83) * x88))), (15, .long (a13 + x64)), (17, .int (nI i8)), (18, .int (nI (plN C i8))), (19, .long v68)] dL_wells_646 (Nat.le_of_ble_eq_true rfl) rfl ?_
                        have L102 : ∀ (n104 i103 : Nat) (S105 : St), i103 + n104 = (N 2) → S105 = itr (chgM C (plN C i8) i8 v68) S101 i103 → g_G p l e rm_L_wells s m args below meth c D A 29 0 0 Q (wL y cI cJ C N S105 Qk) [(0, .ref (y 0)), (1, .ref (y 1)), (2, .ref (y 2)), (3, .ref (y 3)), (4, .ref (y 5)), (5, .ref (y 6)), (6, .ref (y 7)), (7, .ref (y 8)), (8, .ref (y 9)), (9, .ref (y 10)), (10, .ref (y 12)), (11, .long (a11 + (v68 - v83))), (13, .long (a12 + ((v68 - v83) * x88))), (15, .long (a13 + x64)), (17, .int (nI i8)), (18, .int (nI (plN C i8))), (19, .long v68), (28, .int (nI i103))] 648 [] := by
                          intro n104
                          induction n104 with
                          | zero =>
                            intro i103 S105 hi106 eS105
                            obtain rfl : i103 = (N 2) := by omega
                            refine g_iload X 17 dL_wells_648 rfl ?_
                            refine g_aload X 10 dL_wells_650 rfl ?_
                            refine g_iconst X (v := nI 2) dL_wells_652 (by decide +kernel) ?_
                            refine g_iald X 12 rfl (2) rfl (by omega) (Nat.le_of_ble_eq_true rfl) (v := nI (N 2)) rfl dL_wells_653 ?_
                            refine g_icN_ge X (a := (N 2)) (b := N 2) (tgt := 698) (by omega) (by omega) dL_wells_654 (by decide) (fun h107 => ?_) (fun h107 => absurd h107 (by omega))
                            refine g_iinc X [(17, .int (nI (i8 + 1))), (0, .ref (y 0)), (1, .ref (y 1)), (2, .ref (y 2)), (3, .ref (y 3)), (4, .ref (y 5)), (5, .ref (y 6)), (6, .ref (y 7)), (7, .ref (y 8)), (8, .ref (y 9)), (9, .ref (y 10)), (10, .ref (y 12)), (11, .long (a11 + (v68 - v83))), (13, .long (a12 + ((v68 - v83) * x88))), (15, .long (a13 + x64)), (18, .int (nI (plN C i8))), (19, .long v68), (28, .int (nI (N 2)))] (q := 14) (v := nI (i8 + 1)) dL_wells_698 rfl ((congrArg (fun z => nI (i8) + z) (show Int32.ofInt 1 = nI 1 by decide +kernel)).trans ((nI_add _ _).trans (congrArg nI (by omega)))) (Nat.le_of_ble_eq_true rfl) rfl ?_
                            refine g_goto X (tgt := 186) dL_wells_701 (by decide) ?_
                            refine g_lv _ [1, 2, 3, 4, 5, 6, 7, 8, 9, 10, 11, 12, 13, 14, 0] rfl ?_
                            exact ihL7 (i8 + 1) _ _ _ _ (by omega) (by show _ = dwS C N i8 (itr (dwS C N) S4 i8); rw [← eS10]; unfold dwS; rw [if_neg (dwS_y h65 h66), eS105, eS101, ev68, ex70]; exact draw_m hC hpl) (by rw [brn_s, ← eS10, if_neg (dwS_y h65 h66), ea11, ev83, ev68, ex70]; rfl) (by rw [brh_s, ← eS10, if_neg (dwS_y h65 h66), ea12, ex88, ev86, hot_m, ev83, ev68, ex70]; rfl) (by rw [ex64, ev62, ea13, eS10]; exact (wgt_l h3 (by omega) _).trans (by rw [ret_dw]; rfl))
                          | succ n104 ihL102 =>
                            intro i103 S105 hi106 eS105
                            have hlti103 : i103 < (N 2) := by omega
                            have hs := (hC.sp hlti103).2
                            refine g_iload X 17 dL_wells_648 rfl ?_
                            refine g_aload X 10 dL_wells_650 rfl ?_
                            refine g_iconst X (v := nI 2) dL_wells_652 (by decide +kernel) ?_
                            refine g_iald X 12 rfl (2) rfl (by omega) (Nat.le_of_ble_eq_true rfl) (v := nI (N 2)) rfl dL_wells_653 ?_
                            refine g_icN_ge X (a := i103) (b := N 2) (tgt := 698) (by omega) (by omega) dL_wells_654 (by decide) (fun h108 => absurd h108 (by omega)) (fun h108 => ?_)
                            refine g_aload X 7 dL_wells_657 rfl ?_
                            refine g_bipush X (v := nI 8) dL_wells_659 (by decide +kernel) ?_
                            refine g_iload X 17 dL_wells_661 rfl ?_
                            refine g_imul X (v := nI (8 * i103)) dL_wells_663 (pk_mul _ _) ?_
                            refine g_iload X 14 dL_wells_664 rfl ?_
                            refine g_iadd X (v := nI (8 * i103 + i8)) dL_wells_666 ((nI_add _ _).trans (congrArg nI (by omega))) ?_
                            refine g_dup2_11 X dL_wells_667 rfl rfl ?_
                            refine g_lald X 8 rfl (8 * i103 + i8) rfl (by omega) (Nat.le_of_ble_eq_true rfl) (v := S105 11 (10 * i103 + i8)) (lrA_r S105 i103 (n := i8) (by omega)) dL_wells_668 ?_
                            refine g_iload X 15 dL_wells_669 rfl ?_
                            refine g_aload X 6 dL_wells_671 rfl ?_
                            refine g_iconst X (v := nI 5) dL_wells_673 (by decide +kernel) ?_
                            refine g_iload X 17 dL_wells_674 rfl ?_
                            refine g_imul X (v := nI (5 * i103)) dL_wells_676 (pk_mul _ _) ?_
                            refine g_iald X 7 rfl (5 * i103) rfl (by omega) (Nat.le_of_ble_eq_true rfl) (v := nI (spN C i103)) ((lrG_0 C S105 i103).trans (hC.sp (by omega)).1) dL_wells_677 ?_
                            refine g_callS X (As := [.int (nI (plN C i8)), .int (nI (spN C i103))]) (rest := [.long (S105 11 (10 * i103 + i8)), .int (nI (8 * i103 + i8)), .ref (y 8)]) (m_L_near l D cI cJ cZ (plN C i8) (spN C i103) hpl hs) kM_L_24 kT_yL_near kZ_RL kC_yL_near hV_L_near rfl rfl rfl ⟨Nat.le_of_ble_eq_true rfl, Nat.le_of_ble_eq_true rfl⟩ ⟨Nat.le_of_ble_eq_true rfl, Nat.le_of_ble_eq_true rfl⟩ (Nat.le_of_ble_eq_true rfl) dL_wells_678 rfl [] rfl rfl (g_kk1 (w2 := wL y cI cJ C N S105 Qk) ⟨[], [0, 1, 2, 3, 4, 5, 6, 7, 8, 9, 10, 11, 12], [0, 1, 2, 3, 4, 5, 6, 7, 8, 9, 10, 11, 12], ([0, 1, 2, 3, 4, 5, 6, 7, 8, 9, 10, 11, 12].filterMap fun i => (wL y cI cJ C N S105 Qk)[i]?), rfl, rfl, rfl, rfl, by decide, rfl, rfl⟩ ?_)
                            have J111 : ∀ (v110 : Int64), v110 = (if (nrB (plN C i8) (spN C i103)) = false then (0 : Int64) else v68) → g_G p l e rm_L_wells s m args below meth c D A 29 0 0 Q (wL y cI cJ C N S105 Qk) [(0, .ref (y 0)), (1, .ref (y 1)), (2, .ref (y 2)), (3, .ref (y 3)), (4, .ref (y 5)), (5, .ref (y 6)), (6, .ref (y 7)), (7, .ref (y 8)), (8, .ref (y 9)), (9, .ref (y 10)), (10, .ref (y 12)), (11, .long (a11 + (v68 - v83))), (13, .long (a12 + ((v68 - v83) * x88))), (15, .long (a13 + x64)), (17, .int (nI i8)), (18, .int (nI (plN C i8))), (19, .long v68), (28, .int (nI i103))] 690 [.long v110, .long (S105 11 (10 * i103 + i8)), .int (nI (8 * i103 + i8)), .ref (y 8)] := by
                              intro v110 ev110
                              refine g_ladd X (v := (S105 11 (10 * i103 + i8)) + v110) dL_wells_690 rfl ?_
                              obtain ⟨S112, eS112⟩ : ∃ z : St, z = u2 S105 11 (10 * i103 + i8) ((S105 11 (10 * i103 + i8)) + v110) := ⟨_, rfl⟩
                              refine g_last X (ws' := wL y cI cJ C N S112 Qk) 8 rfl (8 * i103 + i8) rfl (by omega) (Nat.le_of_ble_eq_true rfl) dL_wells_691 (by rw [eS112]; first | done | (rw [lrA_w _ i103 (n := i8) (by omega)]; rfl)) ?_
                              refine g_iinc X [(28, .int (nI (i103 + 1))), (0, .ref (y 0)), (1, .ref (y 1)), (2, .ref (y 2)), (3, .ref (y 3)), (4, .ref (y 5)), (5, .ref (y 6)), (6, .ref (y 7)), (7, .ref (y 8)), (8, .ref (y 9)), (9, .ref (y 10)), (10, .ref (y 12)), (11, .long (a11 + (v68 - v83))), (13, .long (a12 + ((v68 - v83) * x88))), (15, .long (a13 + x64)), (17, .int (nI i8)), (18, .int (nI (plN C i8))), (19, .long v68)] (q := 17) (v := nI (i103 + 1)) dL_wells_692 rfl ((congrArg (fun z => nI (i103) + z) (show Int32.ofInt 1 = nI 1 by decide +kernel)).trans ((nI_add _ _).trans (congrArg nI (by omega)))) (Nat.le_of_ble_eq_true rfl) rfl ?_
                              refine g_goto X (tgt := 648) dL_wells_695 (by decide) ?_
                              refine g_lv _ [1, 2, 3, 4, 5, 6, 7, 8, 9, 10, 11, 12, 13, 14, 15, 16, 17, 0] rfl ?_
                              exact ihL102 (i103 + 1) _ (by omega) (by (try rw [eS112]); (try rw [ev110]); (try rw [eS105]); first | done | (rfl))
                            refine g_bI_eq X (tgt := 689) dL_wells_681 (by decide) (fun h109 => ?_) (fun h109 => ?_)
                            · --
                              refine g_lconst X (v := 0) dL_wells_689 (by decide +kernel) ?_
                              exact J111 _ (by rw [if_pos (c := (nrB (plN C i8) (spN C i103)) = false) h109])
                            · --
                              refine g_lload X 16 dL_wells_684 rfl ?_
                              refine g_goto X (tgt := 690) dL_wells_686 (by decide) ?_
                              exact J111 _ (by rw [if_neg (c := (nrB (plN C i8) (spN C i103)) = false) (by rw [h109]; decide)])
                        refine g_lv _ [1, 2, 3, 4, 5, 6, 7, 8, 9, 10, 11, 12, 13, 14, 15, 16, 17, 0] rfl ?_
                        exact L102 ((N 2)) 0 _ (by omega) (by first | rfl | ((try rw [eS101]); (try rw [ev99]); (try rw [ev91]); (try rw [ex88]); (try rw [ev86]); (try rw [ev83]); (try rw [ev76]); (try rw [ex72]); (try rw [ex70]); (try rw [ev68]); (try rw [ex64]); (try rw [ev62]); (try rw [ea13]); (try rw [ea12]); (try rw [ea11]); (try rw [eS10]); (try rw [eS4]); first | done | rfl))
                      refine g_lj_lt X (tgt := 617) (pc1 := 607) dL_wells_606 rfl dL_wells_607 (by decide) (fun h96 => ?_) (fun h96 => ?_)
                      · --
                        refine g_aload X 5 dL_wells_617 rfl ?_
                        refine g_bipush X (v := nI 7) dL_wells_619 (by decide +kernel) ?_
                        refine g_iload X 15 dL_wells_621 rfl ?_
                        refine g_imul X (v := nI (7 * i8)) dL_wells_623 (pk_mul _ _) ?_
                        refine g_iconst X (v := nI 3) dL_wells_624 (by decide +kernel) ?_
                        refine g_iadd X (v := nI (7 * i8 + 3)) dL_wells_625 ((nI_add _ _).trans (congrArg nI (by omega))) ?_
                        refine g_iald X 5 rfl (7 * i8 + 3) rfl (by omega) (Nat.le_of_ble_eq_true rfl) (v := (S95 4 i8).toInt32) (lrE_3 C N S95 i8) dL_wells_626 ?_
                        refine g_goto X (tgt := 644) dL_wells_627 (by decide) ?_
                        refine g_lv _ [1, 2, 3, 4, 5, 6, 7, 8, 9, 10, 11, 12, 13, 14, 15, 16, 17] rfl ?_
                        exact J100 _ (by rw [if_pos (c := x70 < (161 : Int64)) h96])
                      · --
                        refine g_lload X 17 dL_wells_610 rfl ?_
                        refine g_lconst X (v := 0) dL_wells_612 (by decide +kernel) ?_
                        refine g_lj_ne X (tgt := 630) (pc1 := 614) dL_wells_613 rfl dL_wells_614 (by decide) (fun h97 => ?_) (fun h97 => ?_)
                        · --
                          refine g_iload X 0 dL_wells_630 rfl ?_
                          refine g_bipush X (v := nI 100) dL_wells_632 (by decide +kernel) ?_
                          refine g_icmp_le X (tgt := 642) dL_wells_634 (by decide) (fun h98 => ?_) (fun h98 => ?_)
                          · --
                            refine g_iload X 0 dL_wells_642 rfl ?_
                            refine g_lv _ [1, 2, 3, 4, 5, 6, 7, 8, 9, 10, 11, 12, 13, 14, 15, 16, 17] rfl ?_
                            exact J100 _ (by rw [if_neg (c := x70 < (161 : Int64)) h96, if_pos (c := ¬ v68 = (0 : Int64)) h97, if_pos (c := ((((S95 4 i8).toInt32) + (nI 1)) + (v68.toInt32 / (nI 500))) ≤ (nI 100)) h98])
                          · --
                            refine g_bipush X (v := nI 100) dL_wells_637 (by decide +kernel) ?_
                            refine g_goto X (tgt := 644) dL_wells_639 (by decide) ?_
                            refine g_lv _ [1, 2, 3, 4, 5, 6, 7, 8, 9, 10, 11, 12, 13, 14, 15, 16, 17] rfl ?_
                            exact J100 _ (by rw [if_neg (c := x70 < (161 : Int64)) h96, if_pos (c := ¬ v68 = (0 : Int64)) h97, if_neg (c := ((((S95 4 i8).toInt32) + (nI 1)) + (v68.toInt32 / (nI 500))) ≤ (nI 100)) h98])
                        · --
                          refine g_aload X 5 dL_wells_617 rfl ?_
                          refine g_bipush X (v := nI 7) dL_wells_619 (by decide +kernel) ?_
                          refine g_iload X 15 dL_wells_621 rfl ?_
                          refine g_imul X (v := nI (7 * i8)) dL_wells_623 (pk_mul _ _) ?_
                          refine g_iconst X (v := nI 3) dL_wells_624 (by decide +kernel) ?_
                          refine g_iadd X (v := nI (7 * i8 + 3)) dL_wells_625 ((nI_add _ _).trans (congrArg nI (by omega))) ?_
                          refine g_iald X 5 rfl (7 * i8 + 3) rfl (by omega) (Nat.le_of_ble_eq_true rfl) (v := (S95 4 i8).toInt32) (lrE_3 C N S95 i8) dL_wells_626 ?_
                          refine g_goto X (tgt := 644) dL_wells_627 (by decide) ?_
                          refine g_lv _ [1, 2, 3, 4, 5, 6, 7, 8, 9, 10, 11, 12, 13, 14, 15, 16, 17] rfl ?_
                          exact J100 _ (by rw [if_neg (c := x70 < (161 : Int64)) h96, if_neg (c := ¬ v68 = (0 : Int64)) (fun z => z h97)])
                    refine g_lj_ge X (tgt := 531) (pc1 := 524) dL_wells_523 rfl dL_wells_524 (by decide) (fun h90 => ?_) (fun h90 => ?_)
                    · --
                      refine g_lload X 17 dL_wells_531 rfl ?_
                      refine g_ldc2 X kL_L_44 dL_wells_533 ?_
                      refine g_lsub X (v := x70 - (60 : Int64)) dL_wells_536 rfl ?_
                      refine g_lv _ [1, 2, 3, 4, 5, 6, 7, 8, 9, 10, 11, 12, 0, 13, 14, 15, 16, 17] rfl ?_
                      exact J92 _ (by rw [if_pos (c := (60 : Int64) ≤ x70) h90])
                    · --
                      refine g_lconst X (v := 0) dL_wells_527 (by decide +kernel) ?_
                      refine g_goto X (tgt := 537) dL_wells_528 (by decide) ?_
                      refine g_lv _ [1, 2, 3, 4, 5, 6, 7, 8, 9, 10, 11, 12, 0, 13, 14, 15, 16, 17] rfl ?_
                      exact J92 _ (by rw [if_neg (c := (60 : Int64) ≤ x70) h90])
                  refine g_lj_le X (tgt := 495) (pc1 := 486) dL_wells_485 rfl dL_wells_486 (by decide) (fun h85 => ?_) (fun h85 => ?_)
                  · --
                    refine g_lload X 18 dL_wells_495 rfl ?_
                    refine g_lv _ [2, 3, 4, 5, 6, 7, 8, 9, 10, 11, 12, 0, 14, 15, 16, 17, 18, 1] rfl ?_
                    exact J87 _ (by rw [if_pos (c := x70 ≤ (100 : Int64)) h85])
                  · --
                    refine g_ldc2 X kL_L_40 dL_wells_489 ?_
                    refine g_goto X (tgt := 497) dL_wells_492 (by decide) ?_
                    refine g_lv _ [2, 3, 4, 5, 6, 7, 8, 9, 10, 11, 12, 0, 14, 15, 16, 17, 18, 1] rfl ?_
                    exact J87 _ (by rw [if_neg (c := x70 ≤ (100 : Int64)) h85])
                refine g_lj_ge X (tgt := 433) (pc1 := 426) dL_wells_425 rfl dL_wells_426 (by decide) (fun h79 => ?_) (fun h79 => ?_)
                · --
                  refine g_lload X 16 dL_wells_433 rfl ?_
                  refine g_lload X 17 dL_wells_435 rfl ?_
                  refine g_ldc2 X kL_L_36 dL_wells_437 ?_
                  have J82 : ∀ (v81 : Int64), v81 = (if x70 ≤ (300 : Int64) then x70 - (100 : Int64) else (200 : Int64)) → g_G p l e rm_L_wells s m args below meth c D A 29 0 0 Q (wL y cI cJ C N S78 Qk) [(0, .ref (y 0)), (1, .ref (y 1)), (2, .ref (y 2)), (3, .ref (y 3)), (4, .ref (y 5)), (5, .ref (y 6)), (6, .ref (y 7)), (7, .ref (y 8)), (8, .ref (y 9)), (9, .ref (y 10)), (10, .ref (y 12)), (11, .long a11), (13, .long a12), (15, .long (a13 + x64)), (17, .int (nI i8)), (18, .int (nI (plN C i8))), (19, .long v68), (21, .long x70)] 456 [.long v81, .long v68] := by
                    intro v81 ev81
                    refine g_lmul X (v := v68 * v81) dL_wells_456 rfl ?_
                    refine g_ldc2 X kL_L_42 dL_wells_457 ?_
                    refine g_ldiv X (v := (v68 * v81) / (400 : Int64)) dL_wells_460 (by decide +kernel) rfl ?_
                    exact J84 _ (by (try rw [ev81]); rw [if_pos (c := (101 : Int64) ≤ x70) h79])
                  refine g_lj_le X (tgt := 450) (pc1 := 441) dL_wells_440 rfl dL_wells_441 (by decide) (fun h80 => ?_) (fun h80 => ?_)
                  · --
                    refine g_lload X 17 dL_wells_450 rfl ?_
                    refine g_ldc2 X kL_L_40 dL_wells_452 ?_
                    refine g_lsub X (v := x70 - (100 : Int64)) dL_wells_455 rfl ?_
                    exact J82 _ (by rw [if_pos (c := x70 ≤ (300 : Int64)) h80])
                  · --
                    refine g_ldc2 X kL_L_38 dL_wells_444 ?_
                    refine g_goto X (tgt := 456) dL_wells_447 (by decide) ?_
                    exact J82 _ (by rw [if_neg (c := x70 ≤ (300 : Int64)) h80])
                · --
                  refine g_lconst X (v := 0) dL_wells_429 (by decide +kernel) ?_
                  refine g_goto X (tgt := 461) dL_wells_430 (by decide) ?_
                  exact J84 _ (by rw [if_neg (c := (101 : Int64) ≤ x70) h79])
              refine g_lj_le X (tgt := 408) (pc1 := 382) dL_wells_381 rfl dL_wells_382 (by decide) (fun h74 => ?_) (fun h74 => ?_)
              · --
                refine g_aload X 7 dL_wells_408 rfl ?_
                refine g_bipush X (v := nI 7) dL_wells_410 (by decide +kernel) ?_
                refine g_iload X 17 dL_wells_412 rfl ?_
                refine g_imul X (v := nI (7 * i8)) dL_wells_414 (pk_mul _ _) ?_
                refine g_bipush X (v := nI 6) dL_wells_415 (by decide +kernel) ?_
                refine g_iadd X (v := nI (7 * i8 + 6)) dL_wells_417 ((nI_add _ _).trans (congrArg nI (by omega))) ?_
                refine g_iald X 5 rfl (7 * i8 + 6) rfl (by omega) (Nat.le_of_ble_eq_true rfl) (v := (S73 8 i8).toInt32 + 1) (lrE_6 C N S73 (k := i8) (by omega)) dL_wells_418 ?_
                refine g_lv _ [3, 4, 5, 6, 7, 8, 9, 10, 11, 12, 13, 14, 15, 16, 17, 18, 2, 1] rfl ?_
                exact J77 _ (by rw [if_pos (c := x72 ≤ (0 : Int64)) h74])
              · --
                refine g_aload X 7 dL_wells_385 rfl ?_
                refine g_bipush X (v := nI 7) dL_wells_387 (by decide +kernel) ?_
                refine g_iload X 17 dL_wells_389 rfl ?_
                refine g_imul X (v := nI (7 * i8)) dL_wells_391 (pk_mul _ _) ?_
                refine g_bipush X (v := nI 6) dL_wells_392 (by decide +kernel) ?_
                refine g_iadd X (v := nI (7 * i8 + 6)) dL_wells_394 ((nI_add _ _).trans (congrArg nI (by omega))) ?_
                refine g_iald X 5 rfl (7 * i8 + 6) rfl (by omega) (Nat.le_of_ble_eq_true rfl) (v := (S73 8 i8).toInt32 + 1) (lrE_6 C N S73 (k := i8) (by omega)) dL_wells_395 ?_
                refine g_if_ne X (tgt := 408) dL_wells_396 (by decide) (fun h75 => ?_) (fun h75 => ?_)
                · --
                  refine g_aload X 7 dL_wells_408 rfl ?_
                  refine g_bipush X (v := nI 7) dL_wells_410 (by decide +kernel) ?_
                  refine g_iload X 17 dL_wells_412 rfl ?_
                  refine g_imul X (v := nI (7 * i8)) dL_wells_414 (pk_mul _ _) ?_
                  refine g_bipush X (v := nI 6) dL_wells_415 (by decide +kernel) ?_
                  refine g_iadd X (v := nI (7 * i8 + 6)) dL_wells_417 ((nI_add _ _).trans (congrArg nI (by omega))) ?_
                  refine g_iald X 5 rfl (7 * i8 + 6) rfl (by omega) (Nat.le_of_ble_eq_true rfl) (v := (S73 8 i8).toInt32 + 1) (lrE_6 C N S73 (k := i8) (by omega)) dL_wells_418 ?_
                  refine g_lv _ [3, 4, 5, 6, 7, 8, 9, 10, 11, 12, 13, 14, 15, 16, 17, 18, 2, 1] rfl ?_
                  exact J77 _ (by rw [if_neg (c := x72 ≤ (0 : Int64)) h74, if_pos (c := ¬ ((S73 8 i8).toInt32 + 1) = 0) h75])
                · --
                  refine g_aload X 13 dL_wells_399 rfl ?_
                  refine g_iconst X (v := nI 0) dL_wells_401 (by decide +kernel) ?_
                  refine g_iald X 12 rfl (0) rfl (by omega) (Nat.le_of_ble_eq_true rfl) (v := (S73 13 0).toInt32) rfl dL_wells_402 ?_
                  refine g_iconst X (v := nI 1) dL_wells_403 (by decide +kernel) ?_
                  refine g_iadd X (v := ((S73 13 0).toInt32) + (nI 1)) dL_wells_404 rfl ?_
                  refine g_goto X (tgt := 419) dL_wells_405 (by decide) ?_
                  refine g_lv _ [3, 4, 5, 6, 7, 8, 9, 10, 11, 12, 13, 14, 15, 16, 17, 18, 2, 1] rfl ?_
                  exact J77 _ (by rw [if_neg (c := x72 ≤ (0 : Int64)) h74, if_neg (c := ¬ ((S73 8 i8).toInt32 + 1) = 0) (fun z => z h75)])
            refine g_lj_ge X (tgt := 327) (pc1 := 319) dL_wells_318 rfl dL_wells_319 (by decide) (fun h67 => ?_) (fun h67 => ?_)
            · --
              refine g_aload_n X 2 dL_wells_327 rfl rfl ?_
              refine g_iload X 16 dL_wells_328 rfl ?_
              refine g_lald X 0 rfl (plN C i8) rfl (by omega) (Nat.le_of_ble_eq_true rfl) (v := S10 0 (plN C i8)) rfl dL_wells_330 ?_
              refine g_ldc2 X kL_L_28 dL_wells_331 ?_
              refine g_ldiv X (v := (S10 0 (plN C i8)) / (10 : Int64)) dL_wells_334 (by decide +kernel) rfl ?_
              refine g_lv _ [2, 3, 4, 5, 6, 7, 8, 9, 10, 11, 12, 13, 14, 1, 15, 16] rfl ?_
              exact J69 _ (by rw [if_pos (c := ((S10 0 (plN C i8)) / (10 : Int64)) ≤ (wd C S10 i8)) h67])
            · --
              refine g_lload X 0 dL_wells_322 rfl ?_
              refine g_goto X (tgt := 335) dL_wells_324 (by decide) ?_
              refine g_lv _ [2, 3, 4, 5, 6, 7, 8, 9, 10, 11, 12, 13, 14, 1, 15, 16] rfl ?_
              exact J69 _ (by rw [if_neg (c := ((S10 0 (plN C i8)) / (10 : Int64)) ≤ (wd C S10 i8)) h67])
      refine g_icmp_ne X (tgt := 248) dL_wells_218 (by decide) (fun h60 => ?_) (fun h60 => ?_)
      · --
        refine g_lconst X (v := 0) dL_wells_248 (by decide +kernel) ?_
        refine g_lv _ [1, 2, 3, 4, 5, 6, 7, 8, 9, 10, 11, 12, 13, 15, 0] rfl ?_
        exact J63 _ (by rw [if_pos (c := ¬ (C 3 i8) = (nI 1)) h60])
      · --
        refine g_aload X 5 dL_wells_221 rfl ?_
        refine g_bipush X (v := nI 7) dL_wells_223 (by decide +kernel) ?_
        refine g_iload X 15 dL_wells_225 rfl ?_
        refine g_imul X (v := nI (7 * i8)) dL_wells_227 (pk_mul _ _) ?_
        refine g_iconst X (v := nI 5) dL_wells_228 (by decide +kernel) ?_
        refine g_iadd X (v := nI (7 * i8 + 5)) dL_wells_229 ((nI_add _ _).trans (congrArg nI (by omega))) ?_
        refine g_iald X 5 rfl (7 * i8 + 5) rfl (by omega) (Nat.le_of_ble_eq_true rfl) (v := (S10 6 i8).toInt32) (lrE_5 C N S10 i8) dL_wells_230 ?_
        refine g_if_ne X (tgt := 248) dL_wells_231 (by decide) (fun h61 => ?_) (fun h61 => ?_)
        · --
          refine g_lconst X (v := 0) dL_wells_248 (by decide +kernel) ?_
          refine g_lv _ [1, 2, 3, 4, 5, 6, 7, 8, 9, 10, 11, 12, 13, 15, 0] rfl ?_
          exact J63 _ (by rw [if_neg (c := ¬ (C 3 i8) = (nI 1)) (fun z => z h60), if_pos (c := ¬ ((S10 6 i8).toInt32) = 0) h61])
        · --
          refine g_aload X 5 dL_wells_234 rfl ?_
          refine g_bipush X (v := nI 7) dL_wells_236 (by decide +kernel) ?_
          refine g_iload X 15 dL_wells_238 rfl ?_
          refine g_imul X (v := nI (7 * i8)) dL_wells_240 (pk_mul _ _) ?_
          refine g_iconst X (v := nI 2) dL_wells_241 (by decide +kernel) ?_
          refine g_iadd X (v := nI (7 * i8 + 2)) dL_wells_242 ((nI_add _ _).trans (congrArg nI (by omega))) ?_
          refine g_iald X 5 rfl (7 * i8 + 2) rfl (by omega) (Nat.le_of_ble_eq_true rfl) (v := C 4 i8) (lrE_2 C N S10 i8) dL_wells_243 ?_
          refine g_i2l X (v := (C 4 i8).toInt64) dL_wells_244 rfl ?_
          refine g_goto X (tgt := 249) dL_wells_245 (by decide) ?_
          refine g_lv _ [1, 2, 3, 4, 5, 6, 7, 8, 9, 10, 11, 12, 13, 15, 0] rfl ?_
          exact J63 _ (by rw [if_neg (c := ¬ (C 3 i8) = (nI 1)) (fun z => z h60), if_neg (c := ¬ ((S10 6 i8).toInt32) = 0) (fun z => z h61)])
  refine g_lv _ [4, 5, 6, 7, 8, 9, 10, 11, 12, 13, 14, 3, 2, 1, 0] rfl ?_
  exact L7 ((N 0)) 0 _ _ _ _ (by omega) (by first | rfl | ((try rw [eS4]); first | done | rfl)) (by first | rfl | ((try rw [eS4]); first | done | rfl)) (by first | rfl | ((try rw [eS4]); first | done | rfl)) (by first | rfl | ((try rw [eS4]); first | done | rfl))
