/-! the law's loop -/
theorem and31 (v : Int32) : ∃ k, k < 32 ∧ v &&& nI 31 = nI k := by
  refine ⟨(v &&& nI 31).toBitVec.toNat, ?_, ?_⟩
  · have e : (v &&& nI 31).toBitVec = v.toBitVec &&& (31#32) := by
      rw [Int32.toBitVec_and]
      rfl
    rw [e, BitVec.toNat_and]
    have : v.toBitVec.toNat &&& (31#32).toNat ≤ (31#32).toNat := Nat.and_le_right
    have h2 : (31#32).toNat = 31 := rfl
    omega
  · apply Int32.toBitVec_inj.mp
    apply BitVec.eq_of_toNat_eq
    show _ = (Int32.ofNat (v &&& nI 31).toBitVec.toNat).toBitVec.toNat
    rw [show (Int32.ofNat (v &&& nI 31).toBitVec.toNat).toBitVec = BitVec.ofNat 32 (v &&& nI 31).toBitVec.toNat from rfl, BitVec.toNat_ofNat, Nat.mod_eq_of_lt (v &&& nI 31).toBitVec.isLt]
theorem hd_iff {L j : Nat} (hL : L ≤ 2048) (hj : j ≤ 2048) : nI L - nI 4 < nI (4 * j) ↔ ¬ 4 * j + 4 ≤ L := by
  rw [Int32.lt_iff_toInt_lt, pk_sub_toInt (by omega) (by omega), nI_toInt (by omega)]
  omega
section GXI
variable {p : Program} {l : Launch} {e : Env} {R : Room} {s : State} {m : MethodId} {args : Array Value} {below : List Frame} {meth : Method} {c : Code} {D : va_G} {A : Nat → Prop} {nL kc ks : Nat} {cc : ByteArray} {own : String} {cI cJ cZ : ClassId} {Q : State → Prop} {ws : va_W} {lv : List (Nat × Value)} {pc : Nat} {st : List Value}
theorem g_andi (X : g_Cx p s m args c D A nL cc own cI cJ cZ) {x y v : Int32} (hd : decode cc pc = .ok (.iand, 1)) (hv : x &&& y = v) (kk : g_G p l e R s m args below meth c D A nL kc ks Q ws lv (pc + 1) (.int v :: st)) : g_G p l e R s m args below meth c D A nL kc ks Q ws lv pc (.int y :: .int x :: st) := by
  subst hv
  exact fun H locs ls hP hD hS hl => lv_iand X.1 X.2.1 hd (kk H locs ls hP hD hS hl)
end GXI

set_option maxRecDepth 100000 in
set_option maxHeartbeats 4000000 in
theorem n_law_loop (l : Launch) (hl0 : l.stackTraces = false) (D : va_G) (cI cJ cZ : ClassId) (B0 : Nat) (x h : Nat → Nat) (u b L : Nat) (xs : Nat → Int32) {p : Program} {e : Env} {s : State} {m : MethodId} {args : Array Value} {below : List Frame} {meth : Method} {c : Code} {A : Nat → Prop} (X : g_Cx p s m args c D A 8 cL_law RL cI cJ cZ) (Yx : g_Xx B0 A s) (hXs : va_X b L xs s s.heap) (hbl : b < s.heap.size) (hbA : ¬ A b) (hx : ∀ i, i < 71 → B0 ≤ x i) (hu : B0 ≤ u) (hL : L ≤ 2048) {Q : State → Prop} (hEnd : ∀ (kc ks : Nat) (ws : va_W) (lv : List (Nat × Value)), kc ≤ 1116 → ks ≤ 10012 → g_G p l e room_1 s m args below meth c D A 8 kc ks Q ws lv 1370 [.int (nI 1)]) : ∀ (r0 j kc ks : Nat) (C : Cf) (N : Nat → Nat) (S : St) (Qk : Nat → Int64) (Z : St) (jC : Cf) (jN : Nat → Nat) (jS : St) (jQ : Nat → Int64) (jZ : St) (U : Nat → Int64) (th : Int32) (K P : Nat → Int64) (Y : St) (mo : Nat), j + r0 = L / 4 → kc + r0 ≤ 1116 → ks + 6 * r0 ≤ 10012 → LI C N S jC jN jS mo → g_G p l e room_1 s m args below meth c D A 8 kc ks Q (wX2 x cI cJ cZ C N S Qk Z jC jN jS jQ jZ ++ ([(u, .inl (cJ, 1, .inr (.inl U)))] ++ wM h cI cJ cZ th C N S Qk K P Y)) [(0, .ref b), (1, .ref (x 0)), (2, .ref (h 0)), (3, .ref u), (4, .int (nI (4 * j)))] 23 [] := by
  intro r0
  induction r0 with
  | zero =>
    intro j kc ks C N S Qk Z jC jN jS jQ jZ U th K P Y mo hjr hk1 hk2 hLI
    refine g_iload X 4 dL_law_23 rfl ?_
    refine g_aload_n X 0 dL_law_25 rfl rfl ?_
    refine g_slen X hXs hbl hbA dL_law_26 ?_
    refine g_iconst X (v := nI 4) dL_law_27 (by decide +kernel) ?_
    refine g_isub X (v := nI L - nI 4) dL_law_28 rfl ?_
    refine g_icmp_gt X (tgt := 1369) dL_law_29 (by decide) (fun h0 => ?_) (fun h0 => absurd ((hd_iff hL (by omega)).mpr (by omega)) h0)
    refine g_iconst X (v := nI 1) dL_law_1369 (by decide +kernel) ?_
    exact hEnd _ _ _ _ (by omega) (by omega)
  | succ r0 ih =>
    intro j kc ks C N S Qk Z jC jN jS jQ jZ U th K P Y mo hjr hk1 hk2 hLI
    refine g_iload X 4 dL_law_23 rfl ?_
    refine g_aload_n X 0 dL_law_25 rfl rfl ?_
    refine g_slen X hXs hbl hbA dL_law_26 ?_
    refine g_iconst X (v := nI 4) dL_law_27 (by decide +kernel) ?_
    refine g_isub X (v := nI L - nI 4) dL_law_28 rfl ?_
    refine g_icmp_gt X (tgt := 1369) dL_law_29 (by decide) (fun h0 => absurd (by omega) ((hd_iff hL (by omega)).mp h0)) (fun h0 => ?_)
    have hj : 4 * j + 4 ≤ L := by omega
    have kk : ∀ (C : Cf) (N : Nat → Nat) (S : St) (Qk : Nat → Int64) (Z : St) (jC : Cf) (jN : Nat → Nat) (jS : St) (jQ : Nat → Int64) (jZ : St) (U : Nat → Int64) (th : Int32) (K P : Nat → Int64) (Y9 : St) (mo : Nat), LI C N S jC jN jS mo → g_G p l e room_1 s m args below meth c D A 8 (kc + 1) (ks + 6) Q (wX2 x cI cJ cZ C N S Qk Z jC jN jS jQ jZ ++ ([(u, .inl (cJ, 1, .inr (.inl U)))] ++ wM h cI cJ cZ th C N S Qk K P Y9)) [(0, .ref b), (1, .ref (x 0)), (2, .ref (h 0)), (3, .ref u), (4, .int (nI (4 * j)))] 1363 [] := by
      intro C N S Qk Z jC jN jS jQ jZ U th K P Y mo hLI
      refine g_iinc X [(4, .int (nI (4 * (j + 1)))), (0, .ref b), (1, .ref (x 0)), (2, .ref (h 0)), (3, .ref u)] (q := 4) (v := nI (4 * (j + 1))) dL_law_1363 rfl ((congrArg (fun z => nI (4 * j) + z) (show Int32.ofInt 4 = nI 4 by decide +kernel)).trans ((nI_add _ _).trans (congrArg nI (by omega)))) (Nat.le_of_ble_eq_true rfl) rfl ?_
      refine g_goto X (tgt := 23) dL_law_1366 (by decide) ?_
      refine g_lv [(0, .ref b), (1, .ref (x 0)), (2, .ref (h 0)), (3, .ref u), (4, .int (nI (4 * (j + 1))))] [1, 2, 3, 4, 0] rfl ?_
      exact ih (j + 1) (kc + 1) (ks + 6) C N S Qk Z jC jN jS jQ jZ U th K P Y mo (by omega) (by omega) (by omega) hLI
    refine g_aload_n X 0 dL_law_32 rfl rfl ?_
    refine g_iload X 4 dL_law_33 rfl ?_
    refine g_sld X hXs hbl hbA (4 * j) rfl (by omega) (by omega) rfl dL_law_35 ?_
    refine g_bipush X (v := nI 31) dL_law_36 (by decide +kernel) ?_
    obtain ⟨k, hk, ek⟩ := and31 (xs (4 * j))
    refine g_andi X (v := nI k) dL_law_38 ek ?_
    by_cases hk19 : k < 19
    · rcases (show k = 0 ∨ k = 1 ∨ k = 2 ∨ k = 3 ∨ k = 4 ∨ k = 5 ∨ k = 6 ∨ k = 7 ∨ k = 8 ∨ k = 9 ∨ k = 10 ∨ k = 11 ∨ k = 12 ∨ k = 13 ∨ k = 14 ∨ k = 15 ∨ k = 16 ∨ k = 17 ∨ k = 18 by omega) with rfl | rfl | rfl | rfl | rfl | rfl | rfl | rfl | rfl | rfl | rfl | rfl | rfl | rfl | rfl | rfl | rfl | rfl | rfl
      · --
        refine g_tsw X (tgt := 128) dL_law_39 (by decide +kernel) rfl (by decide) ?_
        by_cases hc : cB3 S (xs (4 * j + 1)) (xs (4 * j + 2)) (xs (4 * j + 3)) = 0
        · exact n_law_block l hl0 D cI cJ cZ B0 x h u b L j xs X Yx hXs hbl hbA hx hu hj hL kc ks (by omega) (by omega) C N S Qk Z jC jN jS jQ jZ U th K P Y mo hLI (xs (4 * j + 1)) (xs (4 * j + 2)) (xs (4 * j + 3)) rfl rfl rfl hc kk
        · exact n_law_blockX l hl0 D cI cJ cZ B0 x h u b L j xs X Yx hXs hbl hbA hx hu hj hL kc ks (by omega) (by omega) C N S Qk Z jC jN jS jQ jZ U th K P Y mo hLI (xs (4 * j + 1)) (xs (4 * j + 2)) (xs (4 * j + 3)) rfl rfl rfl hc kk
      · --
        refine g_tsw X (tgt := 208) dL_law_39 (by decide +kernel) rfl (by decide) ?_
        by_cases hc : cK3 (xs (4 * j + 1)) (xs (4 * j + 2)) (xs (4 * j + 3)) = 0
        · exact n_law_crack l hl0 D cI cJ cZ B0 x h u b L j xs X Yx hXs hbl hbA hx hu hj hL kc ks (by omega) (by omega) C N S Qk Z jC jN jS jQ jZ U th K P Y mo hLI (xs (4 * j + 1)) (xs (4 * j + 2)) (xs (4 * j + 3)) rfl rfl rfl hc kk
        · exact n_law_crackX l hl0 D cI cJ cZ B0 x h u b L j xs X Yx hXs hbl hbA hx hu hj hL kc ks (by omega) (by omega) C N S Qk Z jC jN jS jQ jZ U th K P Y mo hLI (xs (4 * j + 1)) (xs (4 * j + 2)) (xs (4 * j + 3)) rfl rfl rfl hc kk
      · --
        refine g_tsw X (tgt := 288) dL_law_39 (by decide +kernel) rfl (by decide) ?_
        by_cases hc : cR1 (xs (4 * j + 1)) (nI 0) (nI 500) = 0
        · exact n_law_rain l hl0 D cI cJ cZ B0 x h u b L j xs X Yx hXs hbl hbA hx hu hj hL kc ks (by omega) (by omega) C N S Qk Z jC jN jS jQ jZ U th K P Y mo hLI (xs (4 * j + 1)) rfl hc kk
        · exact n_law_rainX l hl0 D cI cJ cZ B0 x h u b L j xs X Yx hXs hbl hbA hx hu hj hL kc ks (by omega) (by omega) C N S Qk Z jC jN jS jQ jZ U th K P Y mo hLI (xs (4 * j + 1)) rfl hc kk
      · --
        refine g_tsw X (tgt := 344) dL_law_39 (by decide +kernel) rfl (by decide) ?_
        by_cases hc : cL1 (N 0) (xs (4 * j + 1)) = 0
        · exact n_law_well l hl0 D cI cJ cZ B0 x h u b L j xs X Yx hXs hbl hbA hx hu hj hL kc ks (by omega) (by omega) C N S Qk Z jC jN jS jQ jZ U th K P Y mo hLI (xs (4 * j + 1)) (xs (4 * j + 2)) (if (xs (4 * j + 2)) = 0 then false else true) rfl rfl rfl hc kk
        · exact n_law_wellX l hl0 D cI cJ cZ B0 x h u b L j xs X Yx hXs hbl hbA hx hu hj hL kc ks (by omega) (by omega) C N S Qk Z jC jN jS jQ jZ U th K P Y mo hLI (xs (4 * j + 1)) (xs (4 * j + 2)) (if (xs (4 * j + 2)) = 0 then false else true) rfl rfl rfl hc kk
      · --
        refine g_tsw X (tgt := 428) dL_law_39 (by decide +kernel) rfl (by decide) ?_
        by_cases hc : cO2 C (N 0) (xs (4 * j + 1)) (xs (4 * j + 2)) = 0
        · exact n_law_open l hl0 D cI cJ cZ B0 x h u b L j xs X Yx hXs hbl hbA hx hu hj hL kc ks (by omega) (by omega) C N S Qk Z jC jN jS jQ jZ U th K P Y mo hLI (xs (4 * j + 1)) (xs (4 * j + 2)) rfl rfl hc kk
        · exact n_law_openX l hl0 D cI cJ cZ B0 x h u b L j xs X Yx hXs hbl hbA hx hu hj hL kc ks (by omega) (by omega) C N S Qk Z jC jN jS jQ jZ U th K P Y mo hLI (xs (4 * j + 1)) (xs (4 * j + 2)) rfl rfl hc kk
      · --
        refine g_tsw X (tgt := 496) dL_law_39 (by decide +kernel) rfl (by decide) ?_
        by_cases hc : cW1 C (N 0) (xs (4 * j + 1)) = 0
        · exact n_law_clean l hl0 D cI cJ cZ B0 x h u b L j xs X Yx hXs hbl hbA hx hu hj hL kc ks (by omega) (by omega) C N S Qk Z jC jN jS jQ jZ U th K P Y mo hLI (xs (4 * j + 1)) rfl hc kk
        · exact n_law_cleanX l hl0 D cI cJ cZ B0 x h u b L j xs X Yx hXs hbl hbA hx hu hj hL kc ks (by omega) (by omega) C N S Qk Z jC jN jS jQ jZ U th K P Y mo hLI (xs (4 * j + 1)) rfl hc kk
      · --
        refine g_tsw X (tgt := 552) dL_law_39 (by decide +kernel) rfl (by decide) ?_
        by_cases hc : cU2 (N 1) (xs (4 * j + 1)) (xs (4 * j + 2)) = 0
        · exact n_law_use l hl0 D cI cJ cZ B0 x h u b L j xs X Yx hXs hbl hbA hx hu hj hL kc ks (by omega) (by omega) C N S Qk Z jC jN jS jQ jZ U th K P Y mo hLI (xs (4 * j + 1)) (xs (4 * j + 2)) rfl rfl hc kk
        · exact n_law_useX l hl0 D cI cJ cZ B0 x h u b L j xs X Yx hXs hbl hbA hx hu hj hL kc ks (by omega) (by omega) C N S Qk Z jC jN jS jQ jZ U th K P Y mo hLI (xs (4 * j + 1)) (xs (4 * j + 2)) rfl rfl hc kk
      · --
        refine g_tsw X (tgt := 620) dL_law_39 (by decide +kernel) rfl (by decide) ?_
        by_cases hc : cS3 (N 2) (xs (4 * j + 1)) (xs (4 * j + 2)) (xs (4 * j + 3)) = 0
        · exact n_law_spring l hl0 D cI cJ cZ B0 x h u b L j xs X Yx hXs hbl hbA hx hu hj hL kc ks (by omega) (by omega) C N S Qk Z jC jN jS jQ jZ U th K P Y mo hLI (xs (4 * j + 1)) (xs (4 * j + 2)) (xs (4 * j + 3)) rfl rfl rfl hc kk
        · exact n_law_springX l hl0 D cI cJ cZ B0 x h u b L j xs X Yx hXs hbl hbA hx hu hj hL kc ks (by omega) (by omega) C N S Qk Z jC jN jS jQ jZ U th K P Y mo hLI (xs (4 * j + 1)) (xs (4 * j + 2)) (xs (4 * j + 3)) rfl rfl rfl hc kk
      · --
        refine g_tsw X (tgt := 700) dL_law_39 (by decide +kernel) rfl (by decide) ?_
        by_cases hc : cI2 (N 2) (xs (4 * j + 1)) (xs (4 * j + 2)) (nI 0) (nI 50000) = 0
        · exact n_law_promise l hl0 D cI cJ cZ B0 x h u b L j xs X Yx hXs hbl hbA hx hu hj hL kc ks (by omega) (by omega) C N S Qk Z jC jN jS jQ jZ U th K P Y mo hLI (xs (4 * j + 1)) (xs (4 * j + 2)) rfl rfl hc kk
        · exact n_law_promiseX l hl0 D cI cJ cZ B0 x h u b L j xs X Yx hXs hbl hbA hx hu hj hL kc ks (by omega) (by omega) C N S Qk Z jC jN jS jQ jZ U th K P Y mo hLI (xs (4 * j + 1)) (xs (4 * j + 2)) rfl rfl hc kk
      · --
        refine g_tsw X (tgt := 768) dL_law_39 (by decide +kernel) rfl (by decide) ?_
        by_cases hc : cT2 S (xs (4 * j + 1)) (xs (4 * j + 2)) = 0
        · exact n_law_tracer l hl0 D cI cJ cZ B0 x h u b L j xs X Yx hXs hbl hbA hx hu hj hL kc ks (by omega) (by omega) C N S Qk Z jC jN jS jQ jZ U th K P Y mo hLI (xs (4 * j + 1)) (xs (4 * j + 2)) rfl rfl hc kk
        · exact n_law_tracerX l hl0 D cI cJ cZ B0 x h u b L j xs X Yx hXs hbl hbA hx hu hj hL kc ks (by omega) (by omega) C N S Qk Z jC jN jS jQ jZ U th K P Y mo hLI (xs (4 * j + 1)) (xs (4 * j + 2)) rfl rfl hc kk
      · --
        refine g_tsw X (tgt := 835) dL_law_39 (by decide +kernel) rfl (by decide) ?_
        by_cases hc : cP2 S (xs (4 * j + 1)) = 0
        · exact n_law_pass l hl0 D cI cJ cZ B0 x h u b L j xs X Yx hXs hbl hbA hx hu hj hL kc ks (by omega) (by omega) C N S Qk Z jC jN jS jQ jZ U th K P Y mo hLI (xs (4 * j + 1)) rfl hc kk
        · exact n_law_passX l hl0 D cI cJ cZ B0 x h u b L j xs X Yx hXs hbl hbA hx hu hj hL kc ks (by omega) (by omega) C N S Qk Z jC jN jS jQ jZ U th K P Y mo hLI (xs (4 * j + 1)) rfl hc kk
      · --
        refine g_tsw X (tgt := 891) dL_law_39 (by decide +kernel) rfl (by decide) ?_
        by_cases hc : cB2 (xs (4 * j + 1)) (xs (4 * j + 2)) 5 = 0
        · exact n_law_ofBlock l hl0 D cI cJ cZ B0 x h u b L j xs X Yx hXs hbl hbA hx hu hj hL kc ks (by omega) (by omega) C N S Qk Z jC jN jS jQ jZ U th K P Y mo hLI (xs (4 * j + 1)) (xs (4 * j + 2)) rfl rfl hc kk
        · exact n_law_ofBlockX l hl0 D cI cJ cZ B0 x h u b L j xs X Yx hXs hbl hbA hx hu hj hL kc ks (by omega) (by omega) C N S Qk Z jC jN jS jQ jZ U th K P Y mo hLI (xs (4 * j + 1)) (xs (4 * j + 2)) rfl rfl hc kk
      · --
        refine g_tsw X (tgt := 958) dL_law_39 (by decide +kernel) rfl (by decide) ?_
        by_cases hc : cD3 (xs (4 * j + 1)) (xs (4 * j + 2)) (xs (4 * j + 3)) = 0
        · exact n_law_would l hl0 D cI cJ cZ B0 x h u b L j xs X Yx hXs hbl hbA hx hu hj hL kc ks (by omega) (by omega) C N S Qk Z jC jN jS jQ jZ U th K P Y mo hLI (xs (4 * j + 1)) (xs (4 * j + 2)) (xs (4 * j + 3)) rfl rfl rfl hc kk
        · exact n_law_wouldX l hl0 D cI cJ cZ B0 x h u b L j xs X Yx hXs hbl hbA hx hu hj hL kc ks (by omega) (by omega) C N S Qk Z jC jN jS jQ jZ U th K P Y mo hLI (xs (4 * j + 1)) (xs (4 * j + 2)) (xs (4 * j + 3)) rfl rfl rfl hc kk
      · --
        refine g_tsw X (tgt := 1037) dL_law_39 (by decide +kernel) rfl (by decide) ?_
        by_cases hc : cI2 (N 0) (xs (4 * j + 1)) (xs (4 * j + 2)) (nI 0) (nI 6) = 0
        · exact n_law_ofWell l hl0 D cI cJ cZ B0 x h u b L j xs X Yx hXs hbl hbA hx hu hj hL kc ks (by omega) (by omega) C N S Qk Z jC jN jS jQ jZ U th K P Y mo hLI (xs (4 * j + 1)) (xs (4 * j + 2)) rfl rfl hc kk
        · exact n_law_ofWellX l hl0 D cI cJ cZ B0 x h u b L j xs X Yx hXs hbl hbA hx hu hj hL kc ks (by omega) (by omega) C N S Qk Z jC jN jS jQ jZ U th K P Y mo hLI (xs (4 * j + 1)) (xs (4 * j + 2)) rfl rfl hc kk
      · --
        refine g_tsw X (tgt := 1104) dL_law_39 (by decide +kernel) rfl (by decide) ?_
        by_cases hc : cI2 (N 2) (xs (4 * j + 1)) (xs (4 * j + 2)) (nI 0) (nI 4) = 0
        · exact n_law_ofSpring l hl0 D cI cJ cZ B0 x h u b L j xs X Yx hXs hbl hbA hx hu hj hL kc ks (by omega) (by omega) C N S Qk Z jC jN jS jQ jZ U th K P Y mo hLI (xs (4 * j + 1)) (xs (4 * j + 2)) rfl rfl hc kk
        · exact n_law_ofSpringX l hl0 D cI cJ cZ B0 x h u b L j xs X Yx hXs hbl hbA hx hu hj hL kc ks (by omega) (by omega) C N S Qk Z jC jN jS jQ jZ U th K P Y mo hLI (xs (4 * j + 1)) (xs (4 * j + 2)) rfl rfl hc kk
      · --
        refine g_tsw X (tgt := 1171) dL_law_39 (by decide +kernel) rfl (by decide) ?_
        by_cases hc : cI2 (kpM S) (xs (4 * j + 1)) (xs (4 * j + 2)) (nI 0) (nI 2) = 0
        · exact n_law_quake l hl0 D cI cJ cZ B0 x h u b L j xs X Yx hXs hbl hbA hx hu hj hL kc ks (by omega) (by omega) C N S Qk Z jC jN jS jQ jZ U th K P Y mo hLI (xs (4 * j + 1)) (xs (4 * j + 2)) rfl rfl hc kk
        · exact n_law_quakeX l hl0 D cI cJ cZ B0 x h u b L j xs X Yx hXs hbl hbA hx hu hj hL kc ks (by omega) (by omega) C N S Qk Z jC jN jS jQ jZ U th K P Y mo hLI (xs (4 * j + 1)) (xs (4 * j + 2)) rfl rfl hc kk
      · --
        refine g_tsw X (tgt := 1239) dL_law_39 (by decide +kernel) rfl (by decide) ?_
        by_cases hc : cR1 (xs (4 * j + 1)) (nI 0) (nI 4) = 0
        · exact n_law_count l hl0 D cI cJ cZ B0 x h u b L j xs X Yx hXs hbl hbA hx hu hj hL kc ks (by omega) (by omega) C N S Qk Z jC jN jS jQ jZ U th K P Y mo hLI (xs (4 * j + 1)) rfl hc kk
        · exact n_law_countX l hl0 D cI cJ cZ B0 x h u b L j xs X Yx hXs hbl hbA hx hu hj hL kc ks (by omega) (by omega) C N S Qk Z jC jN jS jQ jZ U th K P Y mo hLI (xs (4 * j + 1)) rfl hc kk
      · --
        refine g_tsw X (tgt := 1295) dL_law_39 (by decide +kernel) rfl (by decide) ?_
        by_cases hc : cR1 (xs (4 * j + 1)) (nI 0) (nI 7) = 0
        · exact n_law_sum l hl0 D cI cJ cZ B0 x h u b L j xs X Yx hXs hbl hbA hx hu hj hL kc ks (by omega) (by omega) C N S Qk Z jC jN jS jQ jZ U th K P Y mo hLI (xs (4 * j + 1)) rfl hc kk
        · exact n_law_sumX l hl0 D cI cJ cZ B0 x h u b L j xs X Yx hXs hbl hbA hx hu hj hL kc ks (by omega) (by omega) C N S Qk Z jC jN jS jQ jZ U th K P Y mo hLI (xs (4 * j + 1)) rfl hc kk
      · --
        refine g_tsw X (tgt := 1350) dL_law_39 (by decide +kernel) rfl (by decide) ?_
        exact n_law_share l hl0 D cI cJ cZ B0 x h u b L j xs X Yx hXs hbl hbA hx hu hj hL kc ks (by omega) (by omega) C N S Qk Z jC jN jS jQ jZ U th K P Y mo hLI kk
    · refine g_tswO X (tgt := 1363) dL_law_39 (Or.inr (by rw [nI_toInt (by omega)]; omega)) (by decide) ?_
      refine g_widen (Nat.le_succ _) (Nat.le_add_right _ 6) ?_
      exact kk C N S Qk Z jC jN jS jQ jZ U th K P Y mo hLI
