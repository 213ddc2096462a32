set_option maxRecDepth 100000 in
set_option maxHeartbeats 4000000 in
theorem n_tells_1 (l : Launch) (D : va_G) (cI cJ cZ : ClassId) (x y : Nat → Nat) (C : Cf) (N : Nat → Nat) (S : St) (Qk : Nat → Int64) (Z : St) (jC : Cf) (jN : Nat → Nat) (jS : St) (jQ : Nat → Int64) (jZ : St) (zv : Int32) (b : Nat) (hb : b < 12) (mo : Nat) (hm : mo ≤ 600) (hL : LV C N S mo) {p : Program} {e : Env} {s : State} {m : MethodId} {args : Array Value} {below : List Frame} {meth : Method} {c : Code} {A : Nat → Prop} (X : g_Cx p s m args c D A 16 cL_tells RL cI cJ cZ) (hr : meth.sig.returnType = (some .boolean)) (hlk : meth.locks = false) {Q : State → Prop} (hQ : MQ below (g_Post D A (TP x y cI cJ cZ N Qk Z jC jN jS jQ jZ mo)) args s 0 0 A = Q) : g_G p l e rm_L_tells s m args below meth c D A 16 0 0 Q (wX2 x cI cJ cZ C N S Qk Z jC jN jS jQ jZ ++ wL y cI cJ C N S Qk) [(0, .ref (x 0)), (1, .int (nI 1)), (2, .int zv), (3, .ref (y 0)), (4, .ref (y 1)), (5, .ref (y 2)), (6, .ref (y 4)), (7, .ref (y 5)), (8, .ref (y 7)), (9, .ref (y 9)), (10, .ref (y 12)), (11, .int (nI b))] 8 [] := by
  have hC := hL.c
  have hW := hL.wok hm
  have hn0 := hL.2.2.2.1
  have hn1 := hL.2.2.2.2.1
  have hn2 := hL.2.2.2.2.2
  refine g_iload_n X 1 dL_tells_8 rfl rfl ?_
  refine g_iN_ne X (a := 1) (tgt := 121) (by omega) dL_tells_9 (by decide) (fun h1 => ?_) (fun h1 => absurd h1 (by decide))
  refine g_iload_n X 1 dL_tells_121 rfl rfl ?_
  refine g_iconst X (v := nI 1) dL_tells_122 (by decide +kernel) ?_
  refine g_icN_ne X (a := 1) (b := 1) (tgt := 235) (by omega) (by omega) dL_tells_123 (by decide) (fun h2 => absurd rfl h2) (fun h2 => ?_)
  refine g_iconst X (v := nI 2) dL_tells_126 (by decide +kernel) ?_
  refine g_iload_n X 2 dL_tells_127 rfl rfl ?_
  refine g_iconst X (v := nI 4) dL_tells_128 (by decide +kernel) ?_
  refine g_ishr X (v := zv >>> ((nI 4) &&& 31)) dL_tells_129 rfl ?_
  refine g_iconst X (v := nI 2) dL_tells_130 (by decide +kernel) ?_
  have fl3 := lwN_lt (zv >>> ((nI 4) &&& 31)) (n := 2) (by omega)
  refine g_callS X (As := [.int (zv >>> ((nI 4) &&& 31)), .int (nI 2)]) (rest := [.int (nI 2)]) (m_L_low l D cI cJ cZ (zv >>> ((nI 4) &&& 31)) 2 (by omega) (by omega)) kM_L_114 kT_yL_low kZ_RL kC_yL_low hV_L_low rfl rfl rfl ⟨Nat.le_of_ble_eq_true rfl, Nat.le_of_ble_eq_true rfl⟩ ⟨Nat.le_of_ble_eq_true rfl, Nat.le_of_ble_eq_true rfl⟩ (Nat.le_of_ble_eq_true rfl) dL_tells_131 rfl [] rfl (by decide +kernel) (g_kk1 (w2 := wX2 x cI cJ cZ C N S Qk Z jC jN jS jQ jZ ++ wL y cI cJ C N S Qk) em0 ?_)
  obtain ⟨s9, es9⟩ : ∃ z : Nat, z = lwN (zv >>> ((nI 4) &&& 31)) 2 := ⟨_, rfl⟩
  have hs9 : s9 < 2 := by rw [es9]; exact lwN_lt _ (by omega)
  refine g_st (st' := [.int (nI s9), .int (nI 2)]) (by rw [es9]; first | done | rfl) ?_
  refine g_imul X (v := nI (2 * s9)) dL_tells_134 (pk_mul _ _) ?_
  by_cases hs0 : s9 = 0
  · --
    refine g_st (st' := [.int (nI 0)]) (by rw [hs0]; first | done | rfl) ?_
    refine g_istore X [(12, .int (nI 0)), (0, .ref (x 0)), (1, .int (nI 1)), (2, .int zv), (3, .ref (y 0)), (4, .ref (y 1)), (5, .ref (y 2)), (6, .ref (y 4)), (7, .ref (y 5)), (8, .ref (y 7)), (9, .ref (y 9)), (10, .ref (y 12)), (11, .int (nI b))] dL_tells_135 (Nat.le_of_ble_eq_true rfl) rfl ?_
    refine g_iload X 12 dL_tells_137 rfl ?_
    refine g_iload X 0 dL_tells_139 rfl ?_
    refine g_callS X (As := [.int (nI b), .int (nI 0)]) (rest := []) (m_L_beside l D cI cJ cZ b 0 hb (by decide)) kM_L_10 kT_yL_beside kZ_RL kC_yL_beside hV_L_beside rfl rfl rfl ⟨Nat.le_of_ble_eq_true rfl, Nat.le_of_ble_eq_true rfl⟩ ⟨Nat.le_of_ble_eq_true rfl, Nat.le_of_ble_eq_true rfl⟩ (Nat.le_of_ble_eq_true rfl) dL_tells_141 rfl [] rfl (by decide +kernel) (g_kk1 (w2 := wX2 x cI cJ cZ C N S Qk Z jC jN jS jQ jZ ++ wL y cI cJ C N S Qk) em0 ?_)
    by_cases hbs : bsd b 0 = -1
    · --
      refine g_st (st' := [.int (-1 : Int32)]) (by rw [hbs]; first | done | rfl) ?_
      refine g_istore X [(13, .int (-1 : Int32)), (12, .int (nI 0)), (0, .ref (x 0)), (1, .int (nI 1)), (2, .int zv), (3, .ref (y 0)), (4, .ref (y 1)), (5, .ref (y 2)), (6, .ref (y 4)), (7, .ref (y 5)), (8, .ref (y 7)), (9, .ref (y 9)), (10, .ref (y 12)), (11, .int (nI b))] dL_tells_144 (Nat.le_of_ble_eq_true rfl) rfl ?_
      refine g_iload X 0 dL_tells_146 rfl ?_
      refine g_if_ge X (tgt := 153) dL_tells_148 (by decide) (fun h4 => absurd h4 (by decide)) (fun h4 => ?_)
      refine g_iconst X (v := nI 1) dL_tells_151 (by decide +kernel) ?_
      refine g_zret X hr hlk hQ (by decide +kernel) dL_tells_152 ⟨rfl, C, N, S, ?_, ?_, ?_⟩
      · exact hL
      · exact ⟨Nat.le_refl _, Nat.le_refl _, Nat.le_refl _⟩
      · rfl
    · --
      obtain ⟨hob, hlt⟩ := bs0 hb hbs
      refine g_st (st' := [.int (nI (b + 1))]) (by rw [hob]; first | done | rfl) ?_
      refine g_istore X [(13, .int (nI (b + 1))), (12, .int (nI 0)), (0, .ref (x 0)), (1, .int (nI 1)), (2, .int zv), (3, .ref (y 0)), (4, .ref (y 1)), (5, .ref (y 2)), (6, .ref (y 4)), (7, .ref (y 5)), (8, .ref (y 7)), (9, .ref (y 9)), (10, .ref (y 12)), (11, .int (nI b))] dL_tells_144 (Nat.le_of_ble_eq_true rfl) rfl ?_
      refine g_iload X 0 dL_tells_146 rfl ?_
      refine g_if_ge X (tgt := 153) dL_tells_148 (by decide) (fun h5 => ?_) (fun h5 => absurd (nI_nn (by omega)) h5)
      refine g_iconst X (v := nI 2) dL_tells_153 (by decide +kernel) ?_
      refine g_iload X 13 dL_tells_154 rfl ?_
      refine g_imul X (v := nI (2 * b)) dL_tells_156 (pk_mul _ _) ?_
      refine g_iload X 1 dL_tells_157 rfl ?_
      refine g_iconst X (v := nI 2) dL_tells_159 (by decide +kernel) ?_
      refine g_idiv X (v := nI 0) dL_tells_160 (by decide) (by decide) ?_
      refine g_iadd X (v := nI (2 * b)) dL_tells_161 ((nI_add _ _).trans (congrArg nI (by omega))) ?_
      refine g_istore X [(14, .int (nI (2 * b))), (13, .int (nI (b + 1))), (12, .int (nI 0)), (0, .ref (x 0)), (1, .int (nI 1)), (2, .int zv), (3, .ref (y 0)), (4, .ref (y 1)), (5, .ref (y 2)), (6, .ref (y 4)), (7, .ref (y 5)), (8, .ref (y 7)), (9, .ref (y 9)), (10, .ref (y 12)), (11, .int (nI b))] dL_tells_162 (Nat.le_of_ble_eq_true rfl) rfl ?_
      refine g_aload X 9 dL_tells_164 rfl ?_
      refine g_iload X 0 dL_tells_166 rfl ?_
      refine g_iald X 75 rfl (2 * b) rfl (by omega) (Nat.le_of_ble_eq_true rfl) (v := C 0 b) (lrC_0 C b) dL_tells_168 ?_
      refine g_istore X [(15, .int (C 0 b)), (14, .int (nI (2 * b))), (13, .int (nI (b + 1))), (12, .int (nI 0)), (0, .ref (x 0)), (1, .int (nI 1)), (2, .int zv), (3, .ref (y 0)), (4, .ref (y 1)), (5, .ref (y 2)), (6, .ref (y 4)), (7, .ref (y 5)), (8, .ref (y 7)), (9, .ref (y 9)), (10, .ref (y 12)), (11, .int (nI b))] dL_tells_169 (Nat.le_of_ble_eq_true rfl) rfl ?_
      refine g_aload X 10 dL_tells_171 rfl ?_
      refine g_iload X 1 dL_tells_173 rfl ?_
      refine g_iload_n X 6 dL_tells_175 rfl rfl ?_
      refine g_iconst X (v := nI 5) dL_tells_176 (by decide +kernel) ?_
      refine g_ishr X (v := zv >>> ((nI 5) &&& 31)) dL_tells_177 rfl ?_
      refine g_bipush X (v := nI 101) dL_tells_178 (by decide +kernel) ?_
      have fl6 := lwN_lt (zv >>> ((nI 5) &&& 31)) (n := 101) (by omega)
      refine g_callS X (As := [.int (zv >>> ((nI 5) &&& 31)), .int (nI 101)]) (rest := [.int (nI (2 * b)), .ref (y 4)]) (m_L_low l D cI cJ cZ (zv >>> ((nI 5) &&& 31)) 101 (by omega) (by omega)) kM_L_114 kT_yL_low kZ_RL kC_yL_low hV_L_low rfl rfl rfl ⟨Nat.le_of_ble_eq_true rfl, Nat.le_of_ble_eq_true rfl⟩ ⟨Nat.le_of_ble_eq_true rfl, Nat.le_of_ble_eq_true rfl⟩ (Nat.le_of_ble_eq_true rfl) dL_tells_180 rfl [] rfl (by decide +kernel) (g_kk1 (w2 := wX2 x cI cJ cZ C N S Qk Z jC jN jS jQ jZ ++ wL y cI cJ C N S Qk) em0 ?_)
      obtain ⟨w9, ew9⟩ : ∃ z : Nat, z = lwN (zv >>> ((nI 5) &&& 31)) 101 := ⟨_, rfl⟩
      have hw9 : w9 < 101 := by rw [ew9]; exact lwN_lt _ (by omega)
      refine g_st (st' := [.int (nI w9), .int (nI (2 * b)), .ref (y 4)]) (by rw [ew9]; first | done | rfl) ?_
      obtain ⟨aC7, eaC7⟩ : ∃ z : Cf, z = c2 C 0 b (nI w9) := ⟨_, rfl⟩
      refine g_iast X (ws' := wX2 x cI cJ cZ C N S Qk Z jC jN jS jQ jZ ++ wL y cI cJ aC7 N S Qk) 75 rfl (2 * b) rfl (by omega) (Nat.le_of_ble_eq_true rfl) dL_tells_183 (by rw [eaC7]; first | done | (rw [lrC_w0]; rfl)) ?_
      refine g_iload_n X 6 dL_tells_184 rfl rfl ?_
      refine g_bipush X (v := nI 6) dL_tells_185 (by decide +kernel) ?_
      refine g_ishr X (v := zv >>> ((nI 6) &&& 31)) dL_tells_187 rfl ?_
      refine g_iconst X (v := nI 2) dL_tells_188 (by decide +kernel) ?_
      have fl8 := lwN_lt (zv >>> ((nI 6) &&& 31)) (n := 2) (by omega)
      refine g_callS X (As := [.int (zv >>> ((nI 6) &&& 31)), .int (nI 2)]) (rest := []) (m_L_low l D cI cJ cZ (zv >>> ((nI 6) &&& 31)) 2 (by omega) (by omega)) kM_L_114 kT_yL_low kZ_RL kC_yL_low hV_L_low rfl rfl rfl ⟨Nat.le_of_ble_eq_true rfl, Nat.le_of_ble_eq_true rfl⟩ ⟨Nat.le_of_ble_eq_true rfl, Nat.le_of_ble_eq_true rfl⟩ (Nat.le_of_ble_eq_true rfl) dL_tells_189 rfl [] rfl (by decide +kernel) (g_kk1 (w2 := wX2 x cI cJ cZ C N S Qk Z jC jN jS jQ jZ ++ wL y cI cJ aC7 N S Qk) em0 ?_)
      refine g_iN_ne X (a := (lwN (zv >>> ((nI 6) &&& 31)) 2)) (tgt := 211) (by omega) dL_tells_192 (by decide) (fun h9 => ?_) (fun h9 => ?_)
      · --
        refine g_aload_n X 4 dL_tells_211 rfl rfl ?_
        refine g_iload X 2 dL_tells_212 rfl ?_
        refine g_iload X 15 dL_tells_214 rfl ?_
        refine g_aload X 10 dL_tells_216 rfl ?_
        refine g_iload X 1 dL_tells_218 rfl ?_
        refine g_iald X 75 rfl (2 * b) rfl (by omega) (Nat.le_of_ble_eq_true rfl) (v := nI w9) ((show _ = aC7 0 b from (lrC_0 aC7 b)).trans (by rw [eaC7, c2_ap, if_pos ⟨rfl, rfl⟩])) dL_tells_220 ?_
        obtain ⟨C10, eC10⟩ : ∃ z : Cf, z = swC C (b + 1) b (nI w9) := ⟨_, rfl⟩
        refine g_callV X (As := [.int (nI (b + 1)), .int (nI b), .int (nI w9)]) (rest := []) (c_crack l D cI cJ cZ x (x 36) C N S Qk Z (b + 1) b w9 (by omega) hb (by omega) (nb_1 b hb hlt).2) kM_L_122 kI_yX6_crack kS_yX6_crack kZ_RX6 kC_yX6_crack hV_X6_crack rfl rfl rfl 0 rfl (ci := 6) rfl ⟨Nat.le_of_ble_eq_true rfl, Nat.le_of_ble_eq_true rfl⟩ ⟨Nat.le_of_ble_eq_true rfl, Nat.le_of_ble_eq_true rfl⟩ (Nat.le_of_ble_eq_true rfl) dL_tells_221 rfl (em_I 0 36 36 0) (em_C (by decide) (Nat.le_of_ble_eq_true rfl) rfl) (em_nd (by decide)) (g_kk1 (w2 := wX2 x cI cJ cZ C10 N S Qk Z jC jN jS jQ jZ ++ wL y cI cJ aC7 N S Qk) (by rw [eC10]; exact (em3 0 36 36 0 (by decide) (Nat.le_of_ble_eq_true rfl) rfl rfl rfl)) ?_)
        refine g_iload X 0 dL_tells_224 rfl ?_
        refine g_icmp_ne X (tgt := 233) dL_tells_226 (by decide) (fun h11 => absurd (sw_1 (C := C) (b := b) (r := nI w9) hlt).2.2 h11) (fun h11 => ?_)
        refine g_iconst X (v := nI 1) dL_tells_229 (by decide +kernel) ?_
        refine g_goto X (tgt := 234) dL_tells_230 (by decide) ?_
        refine g_zret X hr hlk hQ (by decide +kernel) dL_tells_234 ⟨rfl, C10, N, S, ?_, ?_, ?_⟩
        · rw [eC10]; exact LV_crack (b + 1) b w9 hL hm (by omega) hb (by omega) (nb_1 b hb hlt).2
        · exact ⟨Nat.le_refl _, Nat.le_refl _, Nat.le_refl _⟩
        · rw [(show aC7 = C10 from by (repeat (first | rw [eaC7] | rw [eC10])); first | done | rfl | exact (sw_1 (C := C) (b := b) (r := nI w9) hlt).2.1.symm)]
      · --
        refine g_aload_n X 4 dL_tells_195 rfl rfl ?_
        refine g_iload X 15 dL_tells_196 rfl ?_
        refine g_iload X 2 dL_tells_198 rfl ?_
        refine g_aload X 10 dL_tells_200 rfl ?_
        refine g_iload X 1 dL_tells_202 rfl ?_
        refine g_iald X 75 rfl (2 * b) rfl (by omega) (Nat.le_of_ble_eq_true rfl) (v := nI w9) ((show _ = aC7 0 b from (lrC_0 aC7 b)).trans (by rw [eaC7, c2_ap, if_pos ⟨rfl, rfl⟩])) dL_tells_204 ?_
        obtain ⟨C12, eC12⟩ : ∃ z : Cf, z = swC C b (b + 1) (nI w9) := ⟨_, rfl⟩
        refine g_callV X (As := [.int (nI b), .int (nI (b + 1)), .int (nI w9)]) (rest := []) (c_crack l D cI cJ cZ x (x 36) C N S Qk Z b (b + 1) w9 hb (by omega) (by omega) (nb_1 b hb hlt).1) kM_L_122 kI_yX6_crack kS_yX6_crack kZ_RX6 kC_yX6_crack hV_X6_crack rfl rfl rfl 0 rfl (ci := 6) rfl ⟨Nat.le_of_ble_eq_true rfl, Nat.le_of_ble_eq_true rfl⟩ ⟨Nat.le_of_ble_eq_true rfl, Nat.le_of_ble_eq_true rfl⟩ (Nat.le_of_ble_eq_true rfl) dL_tells_205 rfl (em_I 0 36 36 0) (em_C (by decide) (Nat.le_of_ble_eq_true rfl) rfl) (em_nd (by decide)) (g_kk1 (w2 := wX2 x cI cJ cZ C12 N S Qk Z jC jN jS jQ jZ ++ wL y cI cJ aC7 N S Qk) (by rw [eC12]; exact (em3 0 36 36 0 (by decide) (Nat.le_of_ble_eq_true rfl) rfl rfl rfl)) ?_)
        refine g_goto X (tgt := 224) dL_tells_208 (by decide) ?_
        refine g_iload X 0 dL_tells_224 rfl ?_
        refine g_icmp_ne X (tgt := 233) dL_tells_226 (by decide) (fun h13 => absurd (sw_1 (C := C) (b := b) (r := nI w9) hlt).1.2 h13) (fun h13 => ?_)
        refine g_iconst X (v := nI 1) dL_tells_229 (by decide +kernel) ?_
        refine g_goto X (tgt := 234) dL_tells_230 (by decide) ?_
        refine g_zret X hr hlk hQ (by decide +kernel) dL_tells_234 ⟨rfl, C12, N, S, ?_, ?_, ?_⟩
        · rw [eC12]; exact LV_crack b (b + 1) w9 hL hm hb (by omega) (by omega) (nb_1 b hb hlt).1
        · exact ⟨Nat.le_refl _, Nat.le_refl _, Nat.le_refl _⟩
        · rw [(show aC7 = C12 from by (repeat (first | rw [eaC7] | rw [eC12])); first | done | rfl | exact (sw_1 (C := C) (b := b) (r := nI w9) hlt).1.1.symm)]
  · --
    refine g_st (st' := [.int (nI 2)]) (by rw [show s9 = 1 by omega]; first | done | rfl) ?_
    refine g_istore X [(12, .int (nI 2)), (0, .ref (x 0)), (1, .int (nI 1)), (2, .int zv), (3, .ref (y 0)), (4, .ref (y 1)), (5, .ref (y 2)), (6, .ref (y 4)), (7, .ref (y 5)), (8, .ref (y 7)), (9, .ref (y 9)), (10, .ref (y 12)), (11, .int (nI b))] dL_tells_135 (Nat.le_of_ble_eq_true rfl) rfl ?_
    refine g_iload X 12 dL_tells_137 rfl ?_
    refine g_iload X 0 dL_tells_139 rfl ?_
    refine g_callS X (As := [.int (nI b), .int (nI 2)]) (rest := []) (m_L_beside l D cI cJ cZ b 2 hb (by decide)) kM_L_10 kT_yL_beside kZ_RL kC_yL_beside hV_L_beside rfl rfl rfl ⟨Nat.le_of_ble_eq_true rfl, Nat.le_of_ble_eq_true rfl⟩ ⟨Nat.le_of_ble_eq_true rfl, Nat.le_of_ble_eq_true rfl⟩ (Nat.le_of_ble_eq_true rfl) dL_tells_141 rfl [] rfl (by decide +kernel) (g_kk1 (w2 := wX2 x cI cJ cZ C N S Qk Z jC jN jS jQ jZ ++ wL y cI cJ C N S Qk) em0 ?_)
    by_cases hbs : bsd b 2 = -1
    · --
      refine g_st (st' := [.int (-1 : Int32)]) (by rw [hbs]; first | done | rfl) ?_
      refine g_istore X [(13, .int (-1 : Int32)), (12, .int (nI 2)), (0, .ref (x 0)), (1, .int (nI 1)), (2, .int zv), (3, .ref (y 0)), (4, .ref (y 1)), (5, .ref (y 2)), (6, .ref (y 4)), (7, .ref (y 5)), (8, .ref (y 7)), (9, .ref (y 9)), (10, .ref (y 12)), (11, .int (nI b))] dL_tells_144 (Nat.le_of_ble_eq_true rfl) rfl ?_
      refine g_iload X 0 dL_tells_146 rfl ?_
      refine g_if_ge X (tgt := 153) dL_tells_148 (by decide) (fun h14 => absurd h14 (by decide)) (fun h14 => ?_)
      refine g_iconst X (v := nI 1) dL_tells_151 (by decide +kernel) ?_
      refine g_zret X hr hlk hQ (by decide +kernel) dL_tells_152 ⟨rfl, C, N, S, ?_, ?_, ?_⟩
      · exact hL
      · exact ⟨Nat.le_refl _, Nat.le_refl _, Nat.le_refl _⟩
      · rfl
    · --
      obtain ⟨hob, hlt⟩ := bs2 hb hbs
      refine g_st (st' := [.int (nI (b + 4))]) (by rw [hob]; first | done | rfl) ?_
      refine g_istore X [(13, .int (nI (b + 4))), (12, .int (nI 2)), (0, .ref (x 0)), (1, .int (nI 1)), (2, .int zv), (3, .ref (y 0)), (4, .ref (y 1)), (5, .ref (y 2)), (6, .ref (y 4)), (7, .ref (y 5)), (8, .ref (y 7)), (9, .ref (y 9)), (10, .ref (y 12)), (11, .int (nI b))] dL_tells_144 (Nat.le_of_ble_eq_true rfl) rfl ?_
      refine g_iload X 0 dL_tells_146 rfl ?_
      refine g_if_ge X (tgt := 153) dL_tells_148 (by decide) (fun h15 => ?_) (fun h15 => absurd (nI_nn (by omega)) h15)
      refine g_iconst X (v := nI 2) dL_tells_153 (by decide +kernel) ?_
      refine g_iload X 13 dL_tells_154 rfl ?_
      refine g_imul X (v := nI (2 * b)) dL_tells_156 (pk_mul _ _) ?_
      refine g_iload X 1 dL_tells_157 rfl ?_
      refine g_iconst X (v := nI 2) dL_tells_159 (by decide +kernel) ?_
      refine g_idiv X (v := nI 1) dL_tells_160 (by decide) (by decide) ?_
      refine g_iadd X (v := nI (2 * b + 1)) dL_tells_161 ((nI_add _ _).trans (congrArg nI (by omega))) ?_
      refine g_istore X [(14, .int (nI (2 * b + 1))), (13, .int (nI (b + 4))), (12, .int (nI 2)), (0, .ref (x 0)), (1, .int (nI 1)), (2, .int zv), (3, .ref (y 0)), (4, .ref (y 1)), (5, .ref (y 2)), (6, .ref (y 4)), (7, .ref (y 5)), (8, .ref (y 7)), (9, .ref (y 9)), (10, .ref (y 12)), (11, .int (nI b))] dL_tells_162 (Nat.le_of_ble_eq_true rfl) rfl ?_
      refine g_aload X 9 dL_tells_164 rfl ?_
      refine g_iload X 0 dL_tells_166 rfl ?_
      refine g_iald X 75 rfl (2 * b + 1) rfl (by omega) (Nat.le_of_ble_eq_true rfl) (v := C 1 b) (lrC_1 C b) dL_tells_168 ?_
      refine g_istore X [(15, .int (C 1 b)), (14, .int (nI (2 * b + 1))), (13, .int (nI (b + 4))), (12, .int (nI 2)), (0, .ref (x 0)), (1, .int (nI 1)), (2, .int zv), (3, .ref (y 0)), (4, .ref (y 1)), (5, .ref (y 2)), (6, .ref (y 4)), (7, .ref (y 5)), (8, .ref (y 7)), (9, .ref (y 9)), (10, .ref (y 12)), (11, .int (nI b))] dL_tells_169 (Nat.le_of_ble_eq_true rfl) rfl ?_
      refine g_aload X 10 dL_tells_171 rfl ?_
      refine g_iload X 1 dL_tells_173 rfl ?_
      refine g_iload_n X 6 dL_tells_175 rfl rfl ?_
      refine g_iconst X (v := nI 5) dL_tells_176 (by decide +kernel) ?_
      refine g_ishr X (v := zv >>> ((nI 5) &&& 31)) dL_tells_177 rfl ?_
      refine g_bipush X (v := nI 101) dL_tells_178 (by decide +kernel) ?_
      have fl16 := lwN_lt (zv >>> ((nI 5) &&& 31)) (n := 101) (by omega)
      refine g_callS X (As := [.int (zv >>> ((nI 5) &&& 31)), .int (nI 101)]) (rest := [.int (nI (2 * b + 1)), .ref (y 4)]) (m_L_low l D cI cJ cZ (zv >>> ((nI 5) &&& 31)) 101 (by omega) (by omega)) kM_L_114 kT_yL_low kZ_RL kC_yL_low hV_L_low rfl rfl rfl ⟨Nat.le_of_ble_eq_true rfl, Nat.le_of_ble_eq_true rfl⟩ ⟨Nat.le_of_ble_eq_true rfl, Nat.le_of_ble_eq_true rfl⟩ (Nat.le_of_ble_eq_true rfl) dL_tells_180 rfl [] rfl (by decide +kernel) (g_kk1 (w2 := wX2 x cI cJ cZ C N S Qk Z jC jN jS jQ jZ ++ wL y cI cJ C N S Qk) em0 ?_)
      obtain ⟨w9, ew9⟩ : ∃ z : Nat, z = lwN (zv >>> ((nI 5) &&& 31)) 101 := ⟨_, rfl⟩
      have hw9 : w9 < 101 := by rw [ew9]; exact lwN_lt _ (by omega)
      refine g_st (st' := [.int (nI w9), .int (nI (2 * b + 1)), .ref (y 4)]) (by rw [ew9]; first | done | rfl) ?_
      obtain ⟨aC17, eaC17⟩ : ∃ z : Cf, z = c2 C 1 b (nI w9) := ⟨_, rfl⟩
      refine g_iast X (ws' := wX2 x cI cJ cZ C N S Qk Z jC jN jS jQ jZ ++ wL y cI cJ aC17 N S Qk) 75 rfl (2 * b + 1) rfl (by omega) (Nat.le_of_ble_eq_true rfl) dL_tells_183 (by rw [eaC17]; first | done | (rw [lrC_w1]; rfl)) ?_
      refine g_iload_n X 6 dL_tells_184 rfl rfl ?_
      refine g_bipush X (v := nI 6) dL_tells_185 (by decide +kernel) ?_
      refine g_ishr X (v := zv >>> ((nI 6) &&& 31)) dL_tells_187 rfl ?_
      refine g_iconst X (v := nI 2) dL_tells_188 (by decide +kernel) ?_
      have fl18 := lwN_lt (zv >>> ((nI 6) &&& 31)) (n := 2) (by omega)
      refine g_callS X (As := [.int (zv >>> ((nI 6) &&& 31)), .int (nI 2)]) (rest := []) (m_L_low l D cI cJ cZ (zv >>> ((nI 6) &&& 31)) 2 (by omega) (by omega)) kM_L_114 kT_yL_low kZ_RL kC_yL_low hV_L_low rfl rfl rfl ⟨Nat.le_of_ble_eq_true rfl, Nat.le_of_ble_eq_true rfl⟩ ⟨Nat.le_of_ble_eq_true rfl, Nat.le_of_ble_eq_true rfl⟩ (Nat.le_of_ble_eq_true rfl) dL_tells_189 rfl [] rfl (by decide +kernel) (g_kk1 (w2 := wX2 x cI cJ cZ C N S Qk Z jC jN jS jQ jZ ++ wL y cI cJ aC17 N S Qk) em0 ?_)
      refine g_iN_ne X (a := (lwN (zv >>> ((nI 6) &&& 31)) 2)) (tgt := 211) (by omega) dL_tells_192 (by decide) (fun h19 => ?_) (fun h19 => ?_)
      · --
        refine g_aload_n X 4 dL_tells_211 rfl rfl ?_
        refine g_iload X 2 dL_tells_212 rfl ?_
        refine g_iload X 15 dL_tells_214 rfl ?_
        refine g_aload X 10 dL_tells_216 rfl ?_
        refine g_iload X 1 dL_tells_218 rfl ?_
        refine g_iald X 75 rfl (2 * b + 1) rfl (by omega) (Nat.le_of_ble_eq_true rfl) (v := nI w9) ((show _ = aC17 1 b from (lrC_1 aC17 b)).trans (by rw [eaC17, c2_ap, if_pos ⟨rfl, rfl⟩])) dL_tells_220 ?_
        obtain ⟨C20, eC20⟩ : ∃ z : Cf, z = swC C (b + 4) b (nI w9) := ⟨_, rfl⟩
        refine g_callV X (As := [.int (nI (b + 4)), .int (nI b), .int (nI w9)]) (rest := []) (c_crack l D cI cJ cZ x (x 36) C N S Qk Z (b + 4) b w9 (by omega) hb (by omega) (nb_4 b hlt).2) kM_L_122 kI_yX6_crack kS_yX6_crack kZ_RX6 kC_yX6_crack hV_X6_crack rfl rfl rfl 0 rfl (ci := 6) rfl ⟨Nat.le_of_ble_eq_true rfl, Nat.le_of_ble_eq_true rfl⟩ ⟨Nat.le_of_ble_eq_true rfl, Nat.le_of_ble_eq_true rfl⟩ (Nat.le_of_ble_eq_true rfl) dL_tells_221 rfl (em_I 0 36 36 0) (em_C (by decide) (Nat.le_of_ble_eq_true rfl) rfl) (em_nd (by decide)) (g_kk1 (w2 := wX2 x cI cJ cZ C20 N S Qk Z jC jN jS jQ jZ ++ wL y cI cJ aC17 N S Qk) (by rw [eC20]; exact (em3 0 36 36 0 (by decide) (Nat.le_of_ble_eq_true rfl) rfl rfl rfl)) ?_)
        refine g_iload X 0 dL_tells_224 rfl ?_
        refine g_icmp_ne X (tgt := 233) dL_tells_226 (by decide) (fun h21 => absurd (sw_4 (C := C) (b := b) (r := nI w9)).2.2 h21) (fun h21 => ?_)
        refine g_iconst X (v := nI 1) dL_tells_229 (by decide +kernel) ?_
        refine g_goto X (tgt := 234) dL_tells_230 (by decide) ?_
        refine g_zret X hr hlk hQ (by decide +kernel) dL_tells_234 ⟨rfl, C20, N, S, ?_, ?_, ?_⟩
        · rw [eC20]; exact LV_crack (b + 4) b w9 hL hm (by omega) hb (by omega) (nb_4 b hlt).2
        · exact ⟨Nat.le_refl _, Nat.le_refl _, Nat.le_refl _⟩
        · rw [(show aC17 = C20 from by (repeat (first | rw [eaC17] | rw [eC20])); first | done | rfl | exact (sw_4 (C := C) (b := b) (r := nI w9)).2.1.symm)]
      · --
        refine g_aload_n X 4 dL_tells_195 rfl rfl ?_
        refine g_iload X 15 dL_tells_196 rfl ?_
        refine g_iload X 2 dL_tells_198 rfl ?_
        refine g_aload X 10 dL_tells_200 rfl ?_
        refine g_iload X 1 dL_tells_202 rfl ?_
        refine g_iald X 75 rfl (2 * b + 1) rfl (by omega) (Nat.le_of_ble_eq_true rfl) (v := nI w9) ((show _ = aC17 1 b from (lrC_1 aC17 b)).trans (by rw [eaC17, c2_ap, if_pos ⟨rfl, rfl⟩])) dL_tells_204 ?_
        obtain ⟨C22, eC22⟩ : ∃ z : Cf, z = swC C b (b + 4) (nI w9) := ⟨_, rfl⟩
        refine g_callV X (As := [.int (nI b), .int (nI (b + 4)), .int (nI w9)]) (rest := []) (c_crack l D cI cJ cZ x (x 36) C N S Qk Z b (b + 4) w9 hb (by omega) (by omega) (nb_4 b hlt).1) kM_L_122 kI_yX6_crack kS_yX6_crack kZ_RX6 kC_yX6_crack hV_X6_crack rfl rfl rfl 0 rfl (ci := 6) rfl ⟨Nat.le_of_ble_eq_true rfl, Nat.le_of_ble_eq_true rfl⟩ ⟨Nat.le_of_ble_eq_true rfl, Nat.le_of_ble_eq_true rfl⟩ (Nat.le_of_ble_eq_true rfl) dL_tells_205 rfl (em_I 0 36 36 0) (em_C (by decide) (Nat.le_of_ble_eq_true rfl) rfl) (em_nd (by decide)) (g_kk1 (w2 := wX2 x cI cJ cZ C22 N S Qk Z jC jN jS jQ jZ ++ wL y cI cJ aC17 N S Qk) (by rw [eC22]; exact (em3 0 36 36 0 (by decide) (Nat.le_of_ble_eq_true rfl) rfl rfl rfl)) ?_)
        refine g_goto X (tgt := 224) dL_tells_208 (by decide) ?_
        refine g_iload X 0 dL_tells_224 rfl ?_
        refine g_icmp_ne X (tgt := 233) dL_tells_226 (by decide) (fun h23 => absurd (sw_4 (C := C) (b := b) (r := nI w9)).1.2 h23) (fun h23 => ?_)
        refine g_iconst X (v := nI 1) dL_tells_229 (by decide +kernel) ?_
        refine g_goto X (tgt := 234) dL_tells_230 (by decide) ?_
        refine g_zret X hr hlk hQ (by decide +kernel) dL_tells_234 ⟨rfl, C22, N, S, ?_, ?_, ?_⟩
        · rw [eC22]; exact LV_crack b (b + 4) w9 hL hm hb (by omega) (by omega) (nb_4 b hlt).1
        · exact ⟨Nat.le_refl _, Nat.le_refl _, Nat.le_refl _⟩
        · rw [(show aC17 = C22 from by (repeat (first | rw [eaC17] | rw [eC22])); first | done | rfl | exact (sw_4 (C := C) (b := b) (r := nI w9)).1.1.symm)]
set_option maxRecDepth 100000 in
set_option maxHeartbeats 4000000 in
theorem n_tells_2 (l : Launch) (D : va_G) (cI cJ cZ : ClassId) (x y : Nat → Nat) (C : Cf) (N : Nat → Nat) (S : St) (Qk : Nat → Int64) (Z : St) (jC : Cf) (jN : Nat → Nat) (jS : St) (jQ : Nat → Int64) (jZ : St) (zv : Int32) (b : Nat) (hb : b < 12) (mo : Nat) (hm : mo ≤ 600) (hL : LV C N S mo) {p : Program} {e : Env} {s : State} {m : MethodId} {args : Array Value} {below : List Frame} {meth : Method} {c : Code} {A : Nat → Prop} (X : g_Cx p s m args c D A 16 cL_tells RL cI cJ cZ) (hr : meth.sig.returnType = (some .boolean)) (hlk : meth.locks = false) {Q : State → Prop} (hQ : MQ below (g_Post D A (TP x y cI cJ cZ N Qk Z jC jN jS jQ jZ mo)) args s 0 0 A = Q) : g_G p l e rm_L_tells s m args below meth c D A 16 0 0 Q (wX2 x cI cJ cZ C N S Qk Z jC jN jS jQ jZ ++ wL y cI cJ C N S Qk) [(0, .ref (x 0)), (1, .int (nI 2)), (2, .int zv), (3, .ref (y 0)), (4, .ref (y 1)), (5, .ref (y 2)), (6, .ref (y 4)), (7, .ref (y 5)), (8, .ref (y 7)), (9, .ref (y 9)), (10, .ref (y 12)), (11, .int (nI b))] 8 [] := by
  have hC := hL.c
  have hW := hL.wok hm
  have hn0 := hL.2.2.2.1
  have hn1 := hL.2.2.2.2.1
  have hn2 := hL.2.2.2.2.2
  refine g_iload_n X 1 dL_tells_8 rfl rfl ?_
  refine g_iN_ne X (a := 2) (tgt := 121) (by omega) dL_tells_9 (by decide) (fun h1 => ?_) (fun h1 => absurd h1 (by decide))
  refine g_iload_n X 1 dL_tells_121 rfl rfl ?_
  refine g_iconst X (v := nI 1) dL_tells_122 (by decide +kernel) ?_
  refine g_icN_ne X (a := 2) (b := 1) (tgt := 235) (by omega) (by omega) dL_tells_123 (by decide) (fun h2 => ?_) (fun h2 => absurd h2 (by decide))
  refine g_iload_n X 1 dL_tells_235 rfl rfl ?_
  refine g_iconst X (v := nI 2) dL_tells_236 (by decide +kernel) ?_
  refine g_icN_ne X (a := 2) (b := 2) (tgt := 278) (by omega) (by omega) dL_tells_237 (by decide) (fun h3 => absurd rfl h3) (fun h3 => ?_)
  refine g_aload X 10 dL_tells_240 rfl ?_
  refine g_iconst X (v := nI 5) dL_tells_242 (by decide +kernel) ?_
  refine g_iald X 83 rfl (5) rfl (by omega) (Nat.le_of_ble_eq_true rfl) (v := C 10 0) rfl dL_tells_243 ?_
  refine g_istore X [(12, .int (C 10 0)), (0, .ref (x 0)), (1, .int (nI 2)), (2, .int zv), (3, .ref (y 0)), (4, .ref (y 1)), (5, .ref (y 2)), (6, .ref (y 4)), (7, .ref (y 5)), (8, .ref (y 7)), (9, .ref (y 9)), (10, .ref (y 12)), (11, .int (nI b))] dL_tells_244 (Nat.le_of_ble_eq_true rfl) rfl ?_
  refine g_aload X 11 dL_tells_246 rfl ?_
  refine g_iconst X (v := nI 5) dL_tells_248 (by decide +kernel) ?_
  refine g_iload_n X 3 dL_tells_249 rfl rfl ?_
  refine g_iconst X (v := nI 3) dL_tells_250 (by decide +kernel) ?_
  refine g_ishr X (v := zv >>> ((nI 3) &&& 31)) dL_tells_251 rfl ?_
  refine g_sipush X (v := nI 501) dL_tells_252 (by decide +kernel) ?_
  have fl4 := lwN_lt (zv >>> ((nI 3) &&& 31)) (n := 501) (by omega)
  refine g_callS X (As := [.int (zv >>> ((nI 3) &&& 31)), .int (nI 501)]) (rest := [.int (nI 5), .ref (y 12)]) (m_L_low l D cI cJ cZ (zv >>> ((nI 3) &&& 31)) 501 (by omega) (by omega)) kM_L_114 kT_yL_low kZ_RL kC_yL_low hV_L_low rfl rfl rfl ⟨Nat.le_of_ble_eq_true rfl, Nat.le_of_ble_eq_true rfl⟩ ⟨Nat.le_of_ble_eq_true rfl, Nat.le_of_ble_eq_true rfl⟩ (Nat.le_of_ble_eq_true rfl) dL_tells_255 rfl [] rfl (by decide +kernel) (g_kk1 (w2 := wX2 x cI cJ cZ C N S Qk Z jC jN jS jQ jZ ++ wL y cI cJ C N S Qk) em0 ?_)
  obtain ⟨r9, er9⟩ : ∃ z : Nat, z = lwN (zv >>> ((nI 3) &&& 31)) 501 := ⟨_, rfl⟩
  have hr9 : r9 < 501 := by rw [er9]; exact lwN_lt _ (by omega)
  refine g_st (st' := [.int (nI r9), .int (nI 5), .ref (y 12)]) (by rw [er9]; first | done | rfl) ?_
  obtain ⟨aC5, eaC5⟩ : ∃ z : Cf, z = c2 C 10 0 (nI r9) := ⟨_, rfl⟩
  refine g_iast X (ws' := wX2 x cI cJ cZ C N S Qk Z jC jN jS jQ jZ ++ wL y cI cJ aC5 N S Qk) 83 rfl (5) rfl (by omega) (Nat.le_of_ble_eq_true rfl) dL_tells_258 (by rw [eaC5]; first | done | (rw [lrQ_w5]; rfl)) ?_
  refine g_aload_n X 1 dL_tells_259 rfl rfl ?_
  refine g_aload X 11 dL_tells_260 rfl ?_
  refine g_iconst X (v := nI 5) dL_tells_262 (by decide +kernel) ?_
  refine g_iald X 83 rfl (5) rfl (by omega) (Nat.le_of_ble_eq_true rfl) (v := nI r9) ((show _ = aC5 10 0 from rfl).trans (by rw [eaC5, c2_ap, if_pos ⟨rfl, rfl⟩])) dL_tells_263 ?_
  obtain ⟨C6, eC6⟩ : ∃ z : Cf, z = c2 C 10 0 (nI r9) := ⟨_, rfl⟩
  refine g_callV X (As := [.int (nI r9)]) (rest := []) (c_rain l D cI cJ cZ x (x 36) C N S Qk Z r9 (by omega)) kM_L_125 kI_yX6_rain kS_yX6_rain kZ_RX6 kC_yX6_rain hV_X6_rain rfl rfl rfl 0 rfl (ci := 6) rfl ⟨Nat.le_of_ble_eq_true rfl, Nat.le_of_ble_eq_true rfl⟩ ⟨Nat.le_of_ble_eq_true rfl, Nat.le_of_ble_eq_true rfl⟩ (Nat.le_of_ble_eq_true rfl) dL_tells_264 rfl (em_I 0 36 36 0) (em_C (by decide) (Nat.le_of_ble_eq_true rfl) rfl) (em_nd (by decide)) (g_kk1 (w2 := wX2 x cI cJ cZ C6 N S Qk Z jC jN jS jQ jZ ++ wL y cI cJ aC5 N S Qk) (by rw [eC6]; exact (em3 0 36 36 0 (by decide) (Nat.le_of_ble_eq_true rfl) rfl rfl rfl)) ?_)
  refine g_iload X 0 dL_tells_267 rfl ?_
  refine g_icmp_ne X (tgt := 276) dL_tells_269 (by decide) (fun h7 => absurd rfl h7) (fun h7 => ?_)
  refine g_iconst X (v := nI 1) dL_tells_272 (by decide +kernel) ?_
  refine g_goto X (tgt := 277) dL_tells_273 (by decide) ?_
  refine g_zret X hr hlk hQ (by decide +kernel) dL_tells_277 ⟨rfl, C6, N, S, ?_, ?_, ?_⟩
  · rw [eC6]; exact LV_rain r9 hL hm (by omega)
  · exact ⟨Nat.le_refl _, Nat.le_refl _, Nat.le_refl _⟩
  · rw [(show aC5 = C6 from by (repeat (first | rw [eaC5] | rw [eC6])); first | done | rfl)]
