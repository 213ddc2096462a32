/-! what the calls keep -/
theorem n2_at (N : Nat → Nat) (c v k : Nat) : n2 N c v k = if k = c then v else N k := rfl
theorem l32 {x : Int64} (h : -2147483648 ≤ x.toInt ∧ x.toInt ≤ 2147483647) : x.toInt32.toInt64 = x := by
  apply Int64.toInt_inj.mp
  rw [Int32.toInt_toInt64, Int64.toInt_toInt32, Int.bmod_eq_of_le (by omega) (by omega)]
theorem inB_t {v : Int32} {n : Nat} (hn : n < 1000000) (h : inB v (nI 0) (nI n) = true) : 0 ≤ v.toInt ∧ v.toInt ≤ (n : Int) := by
  obtain ⟨h1, h2⟩ := inB_iff.mp h
  rw [Int32.lt_iff_toInt_lt, nI_toInt (by omega)] at h1 h2
  omega
/-- other rows of the state -/
theorem Iv.st {C : Cf} {N : Nat → Nat} {S T : St} {m : Nat} (h : Iv C N S m) (hW : Wk (50000 + 100000500 * (m : Int)) T) (hr : ∀ c, 4 ≤ c → T c = S c) : Iv C N T m := by
  obtain ⟨hC, hR, hX, h3, hZ, _, hE, h13, hq, hB, h10⟩ := h
  have e13 := hr 13 (by decide)
  have e14 := hr 14 (by decide)
  have eq : qN T = qN S := by unfold qN; rw [e14]
  refine ⟨hC, hR, hX, h3, ⟨fun c w a b d e => by rw [hr c a]; exact hZ.1 c w a b d e, hZ.2.1, hZ.2.2.1, hZ.2.2.2.1, fun c k a b d e => by rw [hr c (by omega)]; exact hZ.2.2.2.2.1 c k a b d e, fun k w a b d => by rw [hr 11 (by decide)]; exact hZ.2.2.2.2.2 k w a b d⟩, hW, hE.rows (fun w _ => by rw [hr 4 (by decide)]) (fun w _ => by rw [hr 8 (by decide)]) (by rw [e13]; exact hE.2.2), by rw [e13]; exact h13, by rw [e14, eq]; exact hq, fun w hw => by rw [hr 6 (by decide)]; exact hB w hw, fun k hk => by rw [hr 10 (by decide)]; exact h10 k hk⟩
/-- other rows of what months don't change -/
theorem Iv.cf {C B : Cf} {N : Nat → Nat} {S : St} {m : Nat} (h : Iv C N S m) (hc : ∀ c, 2 ≤ c → c ≤ 9 → B c = C c) (hX : Xok B) (hR : Rok B) : Iv B N S m := by
  obtain ⟨hC, _, _, h3, hZ, hW, hE, h13, hq, hB, h10⟩ := h
  refine ⟨?_, hR, hX, fun w hw => by rw [hc 3 (by decide) (by decide)]; exact h3 w hw, ⟨hZ.1, fun c w a b d e => by rw [hc c (by omega) (by omega)]; exact hZ.2.1 c w a b d e, fun c w a b d e => by rw [hc c (by omega) (by omega)]; exact hZ.2.2.1 c w a b d e, fun c w a b d e => by rw [hc c (by omega) (by omega)]; exact hZ.2.2.2.1 c w a b d e, hZ.2.2.2.2⟩, hW, hE, h13, hq, hB, h10⟩
  unfold Cok plN muN spN at hC ⊢
  rw [hc 2 (by decide) (by decide), hc 4 (by decide) (by decide), hc 7 (by decide) (by decide)]
  exact hC
theorem iv_block {C : Cf} {N : Nat → Nat} {S : St} {m : Nat} {v q r : Int32} (x : Int64) (h : Iv C N S m) (hc : cB3 S v q r = 0) : Iv C N (u2 (u2 S 0 (nN v) q.toInt64) 1 (nN v) x) m := by
  have ha := cB3_a hc
  have hq := inB_t (by decide) ha.2.1
  refine h.st (fun b hb => ?_) (fun c hc => by rw [u2_c _ _ _ (by omega), u2_c _ _ _ (by omega)])
  rw [u2_c _ _ _ (by decide), u2_ap]
  split
  · rw [Int32.toInt_toInt64]
    exact ⟨hq.1, by omega⟩
  · exact h.2.2.2.2.2.1 b hb
theorem iv_tracer {C : Cf} {N : Nat → Nat} {S : St} {m b : Nat} (x : Int64) (h : Iv C N S m) : Iv C N (u2 S 2 b x) m :=
  h.st (fun b hb => by rw [u2_c _ _ _ (by decide)]; exact h.2.2.2.2.2.1 b hb) (fun c hc => by rw [u2_c _ _ _ (by omega)])
theorem iv_rain {C : Cf} {N : Nat → Nat} {S : St} {m : Nat} {v : Int32} (h : Iv C N S m) (hc : cR1 v (nI 0) (nI 500) = 0) : Iv (c2 C 10 0 v) N S m := by
  refine h.cf (fun c a b => by unfold c2; rw [if_neg (by omega)]) ?_ ?_
  · exact h.2.2.1
  · unfold Rok
    rw [c2_ap, if_pos ⟨rfl, rfl⟩]
    exact inB_t (by decide) (cR1_0 hc)
theorem iv_crack {C : Cf} {N : Nat → Nat} {S : St} {m : Nat} {v q r : Int32} (h : Iv C N S m) (hc : cK3 v q r = 0) : Iv (swC C (nN v) (nN q) r) N S m := by
  have hr := inB_t (by decide) (cK3_0 hc).2.2.2
  have hX := h.2.2.1
  unfold swC
  split
  · refine h.cf (fun c a b => by unfold c2; rw [if_neg (by omega)]) (fun b hb => ?_) h.2.1
    rw [c2_ap, c2_ap, if_neg (c := 1 = 0 ∧ _) (by omega)]
    split
    · exact ⟨hr, (hX b hb).2⟩
    · exact hX b hb
  · refine h.cf (fun c a b => by unfold c2; rw [if_neg (by omega)]) (fun b hb => ?_) h.2.1
    rw [c2_ap, c2_ap, if_neg (c := 0 = 1 ∧ _) (by omega)]
    split
    · exact ⟨(hX b hb).1, hr⟩
    · exact hX b hb
theorem iv_clean {C : Cf} {N : Nat → Nat} {S : St} {m w : Nat} (h : Iv C N S m) (hw : w < N 0) : Iv C N (u2 S 4 w 0) m := by
  obtain ⟨hC, hR, hX, h3, hZ, hW, hE, h13, hq, hB, h10⟩ := h
  refine ⟨hC, hR, hX, h3, ⟨fun c i a b d e => ?_, hZ.2.1, hZ.2.2.1, hZ.2.2.2.1, fun c k a b d e => ?_, fun k i a b d => ?_⟩, ?_, ⟨fun i hi => ?_, fun i hi => ?_, ?_⟩, h13, hq, fun i hi => ?_, fun k hk => ?_⟩
  · rw [u2_ap, if_neg (by omega)]
    exact hZ.1 c i a b d e
  · rw [u2_c _ _ _ (by omega)]
    exact hZ.2.2.2.2.1 c k a b d e
  · rw [u2_c _ _ _ (by decide)]
    exact hZ.2.2.2.2.2 k i a b d
  · exact fun b hb => by rw [u2_c _ _ _ (by decide)]; exact hW b hb
  · unfold scN
    rw [u2_ap]
    split
    · exact ⟨by decide, by decide⟩
    · exact hE.1 i hi
  · rw [u2_c _ _ _ (by decide)]
    exact hE.2.1 i hi
  · rw [u2_c _ _ _ (by decide)]
    exact hE.2.2
  · rw [u2_c _ _ _ (by decide)]
    exact hB i hi
  · rw [u2_c _ _ _ (by decide)]
    exact h10 k hk
theorem iv_open {C : Cf} {N : Nat → Nat} {S : St} {m : Nat} {v q : Int32} (h : Iv C N S m) (hc : cO2 C (N 0) v q = 0) : Iv (c2 C 4 (nN v) q) N S m := by
  have ha := cO2_a hc
  obtain ⟨hC, hR, hX, h3, hZ, hW, hE, h13, hq, hB, h10⟩ := h
  obtain ⟨hvn, -⟩ := inB_m (by have := hC.n0; omega) ha.1
  have hq1 : nN q < 1001 ∧ q = nI (nN q) := by
    have h9 := ha.2
    split at h9
    · exact inB_k (by decide) h9
    · obtain ⟨a, b⟩ := inB_k (by decide) h9
      exact ⟨by omega, b⟩
  refine ⟨⟨hC.1, hC.2.1, hC.2.2.1, fun w hw => hC.pl hw, fun w hw => ?_, fun k hk => hC.sp hk⟩, hR, hX, h3, ⟨hZ.1, fun c i a b d e => ?_, fun c i a b d e => ?_, fun c i a b d e => ?_, hZ.2.2.2.2⟩, hW, hE, h13, hq, hB, h10⟩
  · unfold muN
    rw [c2_ap]
    split
    · exact ⟨hq1.2, by show nN q ≤ 1000; omega⟩
    · exact hC.mu hw
  · rw [c2_ap, if_neg (by omega)]
    exact hZ.2.1 c i a b d e
  · rw [c2_ap, if_neg (by omega)]
    exact hZ.2.2.1 c i a b d e
  · rw [c2_ap, if_neg (by omega)]
    exact hZ.2.2.2.1 c i a b d e
theorem iv_promise {C : Cf} {N : Nat → Nat} {S : St} {m k : Nat} {q : Int32} (h : Iv C N S m) (hk : k < N 2) : Iv (c2 C 9 k q) N S m := by
  obtain ⟨hC, hR, hX, h3, hZ, hW, hE, h13, hq, hB, h10⟩ := h
  refine ⟨⟨hC.1, hC.2.1, hC.2.2.1, fun w hw => hC.pl hw, fun w hw => hC.mu hw, fun k hk => hC.sp hk⟩, hR, hX, h3, ⟨hZ.1, fun c i a b d e => ?_, fun c i a b d e => ?_, fun c i a b d e => ?_, hZ.2.2.2.2⟩, hW, hE, h13, hq, hB, h10⟩
  · rw [c2_ap, if_neg (by omega)]
    exact hZ.2.1 c i a b d e
  · rw [c2_ap, if_neg (by omega)]
    exact hZ.2.2.1 c i a b d e
  · rw [c2_ap, if_neg (by omega)]
    exact hZ.2.2.2.1 c i a b d e
theorem iv_use {C : Cf} {N : Nat → Nat} {S : St} {m : Nat} {a b : Int32} (h : Iv C N S m) (hn : N 1 < 6) : Iv (c2 (c2 C 5 (N 1) a) 6 (N 1) b) (n2 N 1 (N 1 + 1)) S m := by
  obtain ⟨hC, hR, hX, h3, hZ, hW, hE, h13, hq, hB, h10⟩ := h
  refine ⟨⟨hC.1, by show N 1 + 1 ≤ 6; omega, hC.2.2.1, fun w hw => hC.pl hw, fun w hw => hC.mu hw, fun k hk => hC.sp hk⟩, hR, hX, h3, ⟨hZ.1, fun c i a b d e => ?_, fun c i a b d e => ?_, fun c i a b d e => ?_, hZ.2.2.2.2⟩, hW, hE, h13, hq, hB, h10⟩
  · rw [c2_ap, if_neg (by omega), c2_ap, if_neg (by omega)]
    exact hZ.2.1 c i a b d e
  · have d' : N 1 + 1 ≤ i := d
    rw [c2_ap, if_neg (by omega), c2_ap, if_neg (by omega)]
    exact hZ.2.2.1 c i a b (by omega) e
  · rw [c2_ap, if_neg (by omega), c2_ap, if_neg (by omega)]
    exact hZ.2.2.2.1 c i a b d e
theorem iv_spring {C : Cf} {N : Nat → Nat} {S : St} {m : Nat} {v q r : Int32} (h : Iv C N S m) (hn : N 2 < 4) (hv : inB v (nI 0) (nI 11) = true) : Iv (c2 (c2 (c2 C 7 (N 2) v) 8 (N 2) q) 9 (N 2) r) (n2 N 2 (N 2 + 1)) S m := by
  obtain ⟨hC, hR, hX, h3, hZ, hW, hE, h13, hq, hB, h10⟩ := h
  obtain ⟨hvn, evn⟩ := inB_k (by decide) hv
  refine ⟨⟨hC.1, hC.2.1, by show N 2 + 1 ≤ 4; omega, fun w hw => hC.pl hw, fun w hw => hC.mu hw, fun k hk => ?_⟩, hR, hX, h3, ⟨hZ.1, fun c i a b d e => ?_, fun c i a b d e => ?_, fun c i a b d e => ?_, fun c i a b d e => ?_, fun k w hw hk hz => ?_⟩, hW, hE, h13, hq, hB, fun k hk => ?_⟩
  · have hk' : k < N 2 + 1 := hk
    unfold spN
    rw [c2_ap, if_neg (by omega), c2_ap, if_neg (by omega), c2_ap]
    split
    · exact ⟨evn, hvn⟩
    · exact hC.sp (by omega)
  · rw [c2_ap, if_neg (by omega), c2_ap, if_neg (by omega), c2_ap, if_neg (by omega)]
    exact hZ.2.1 c i a b d e
  · rw [c2_ap, if_neg (by omega), c2_ap, if_neg (by omega), c2_ap, if_neg (by omega)]
    exact hZ.2.2.1 c i a b d e
  · have d' : N 2 + 1 ≤ i := d
    rw [c2_ap, if_neg (by omega), c2_ap, if_neg (by omega), c2_ap, if_neg (by omega)]
    exact hZ.2.2.2.1 c i a b (by omega) e
  · have d' : N 2 + 1 ≤ i := d
    exact hZ.2.2.2.2.1 c i a b (by omega) e
  · have hz' : N 2 + 1 ≤ k ∨ N 0 ≤ w := hz
    exact hZ.2.2.2.2.2 k w hw hk (by omega)
  · have hk' : k < N 2 + 1 := hk
    by_cases e : k = N 2
    · rw [e, hZ.2.2.2.2.1 10 (N 2) (by decide) (by decide) (Nat.le_refl _) hn]
      exact ⟨by decide, by have : (0 : Int64).toInt = 0 := rfl; omega⟩
    · exact h10 k (by omega)
theorem iv_well {C : Cf} {N : Nat → Nat} {S : St} {m : Nat} {v : Int32} {r : Bool} (h : Iv C N S m) (hn : N 0 < 10) (hv : inB v (nI 0) (nI 11) = true) : Iv (c2 (c2 C 2 (N 0) v) 3 (N 0) (bI r)) (n2 N 0 (N 0 + 1)) (u2 S 8 (N 0) (-1)) m := by
  obtain ⟨hC, hR, hX, h3, hZ, hW, hE, h13, hq, hB, h10⟩ := h
  obtain ⟨hvn, evn⟩ := inB_k (by decide) hv
  have z4 : S 4 (N 0) = 0 := hZ.1 4 (N 0) (by decide) (by decide) (Nat.le_refl _) hn
  have z6 : S 6 (N 0) = 0 := hZ.1 6 (N 0) (by decide) (by decide) (Nat.le_refl _) hn
  have zc : C 4 (N 0) = 0 := hZ.2.1 4 (N 0) (by decide) (by decide) (Nat.le_refl _) hn
  refine ⟨⟨by show N 0 + 1 ≤ 10; omega, hC.2.1, hC.2.2.1, fun w hw => ?_, fun w hw => ?_, fun k hk => hC.sp hk⟩, hR, hX, fun w hw => ?_, ⟨fun c i a b d e => ?_, fun c i a b d e => ?_, fun c i a b d e => ?_, fun c i a b d e => ?_, fun c i a b d e => ?_, fun k w hw hk hz => ?_⟩, ?_, ⟨fun w hw => ?_, fun w hw => ?_, ?_⟩, h13, hq, fun w hw => ?_, fun k hk => ?_⟩
  · have hw' : w < N 0 + 1 := hw
    unfold plN
    rw [c2_ap, if_neg (by omega), c2_ap]
    split
    · exact ⟨evn, hvn⟩
    · exact hC.pl (by omega)
  · have hw' : w < N 0 + 1 := hw
    unfold muN
    rw [c2_ap, if_neg (by omega), c2_ap, if_neg (by omega)]
    by_cases e : w = N 0
    · rw [e, zc]
      exact ⟨by decide, by decide⟩
    · exact hC.mu (by omega)
  · have hw' : w < N 0 + 1 := hw
    rw [c2_ap]
    split
    · cases r
      · exact Or.inl rfl
      · exact Or.inr rfl
    · rw [c2_ap, if_neg (by omega)]
      exact h3 w (by omega)
  · have d' : N 0 + 1 ≤ i := d
    rw [u2_ap, if_neg (by omega)]
    exact hZ.1 c i a b (by omega) e
  · have d' : N 0 + 1 ≤ i := d
    rw [c2_ap, if_neg (by omega), c2_ap, if_neg (by omega)]
    exact hZ.2.1 c i a b (by omega) e
  · rw [c2_ap, if_neg (by omega), c2_ap, if_neg (by omega)]
    exact hZ.2.2.1 c i a b d e
  · rw [c2_ap, if_neg (by omega), c2_ap, if_neg (by omega)]
    exact hZ.2.2.2.1 c i a b d e
  · rw [u2_c _ _ _ (by omega)]
    exact hZ.2.2.2.2.1 c i a b d e
  · have hz' : N 2 ≤ k ∨ N 0 + 1 ≤ w := hz
    rw [u2_c _ _ _ (by decide)]
    exact hZ.2.2.2.2.2 k w hw hk (by omega)
  · exact fun b hb => by rw [u2_c _ _ _ (by decide)]; exact hW b hb
  · have hw' : w < N 0 + 1 := hw
    unfold scN
    rw [u2_c _ _ _ (by decide)]
    by_cases e : w = N 0
    · rw [e, z4]
      exact ⟨by decide, by decide⟩
    · exact hE.1 w (by omega)
  · have hw' : w < N 0 + 1 := hw
    rw [u2_ap]
    split
    · exact ⟨by decide, by decide⟩
    · exact hE.2.1 w (by omega)
  · rw [u2_c _ _ _ (by decide)]
    exact hE.2.2
  · have hw' : w < N 0 + 1 := hw
    rw [u2_c _ _ _ (by decide)]
    by_cases e : w = N 0
    · rw [e]
      exact Or.inl z6
    · exact hB w (by omega)
  · rw [u2_c _ _ _ (by decide)]
    exact h10 k hk
/-! what is told is the same -/
theorem te_G (S : St) {b k : Nat} (hk : k < 6) : tolM S b k = tellG S b k := by
  rcases (show k = 0 ∨ k = 1 ∨ k = 2 ∨ k = 3 ∨ k = 4 ∨ k = 5 by omega) with rfl | rfl | rfl | rfl | rfl | rfl <;> rfl
theorem tw_0 (C : Cf) (S : St) (v : Int32) : twM C S v (nI 0) = (C 2 (nN v)).toInt64 := by
    unfold twM
    rw [if_neg (not_not_intro (show nI 0 = 0 by decide))]
theorem tw_1 (C : Cf) (S : St) (v : Int32) : twM C S v (nI 1) = (C 4 (nN v)).toInt64 := by
    unfold twM
    rw [if_pos (show ¬ nI 1 = 0 by decide), if_neg (not_not_intro (show nI 1 = nI 1 by decide))]
theorem tw_2 (C : Cf) (S : St) (v : Int32) : twM C S v (nI 2) = S 4 (nN v) := by
    unfold twM
    rw [if_pos (show ¬ nI 2 = 0 by decide), if_pos (show ¬ nI 2 = nI 1 by decide), if_neg (not_not_intro (show nI 2 = nI 2 by decide))]
theorem tw_3 (C : Cf) (S : St) (v : Int32) : twM C S v (nI 3) = S 5 (nN v) := by
    unfold twM
    rw [if_pos (show ¬ nI 3 = 0 by decide), if_pos (show ¬ nI 3 = nI 1 by decide), if_pos (show ¬ nI 3 = nI 2 by decide), if_neg (not_not_intro (show nI 3 = nI 3 by decide))]
theorem tw_4 (C : Cf) (S : St) (v : Int32) : twM C S v (nI 4) = S 6 (nN v) := by
    unfold twM
    rw [if_pos (show ¬ nI 4 = 0 by decide), if_pos (show ¬ nI 4 = nI 1 by decide), if_pos (show ¬ nI 4 = nI 2 by decide), if_pos (show ¬ nI 4 = nI 3 by decide), if_neg (not_not_intro (show nI 4 = nI 4 by decide))]
theorem tw_5 (C : Cf) (S : St) (v : Int32) : twM C S v (nI 5) = S 7 (nN v) := by
    unfold twM
    rw [if_pos (show ¬ nI 5 = 0 by decide), if_pos (show ¬ nI 5 = nI 1 by decide), if_pos (show ¬ nI 5 = nI 2 by decide), if_pos (show ¬ nI 5 = nI 3 by decide), if_pos (show ¬ nI 5 = nI 4 by decide), if_neg (not_not_intro (show nI 5 = nI 5 by decide))]
theorem tw_6 (C : Cf) (S : St) (v : Int32) : twM C S v (nI 6) = S 8 (nN v) := by
    unfold twM
    rw [if_pos (show ¬ nI 6 = 0 by decide), if_pos (show ¬ nI 6 = nI 1 by decide), if_pos (show ¬ nI 6 = nI 2 by decide), if_pos (show ¬ nI 6 = nI 3 by decide), if_pos (show ¬ nI 6 = nI 4 by decide), if_pos (show ¬ nI 6 = nI 5 by decide)]
theorem ts_0 (C : Cf) (N : Nat → Nat) (S : St) (v : Int32) : tsM C N S v (nI 0) = (C 7 (nN v)).toInt64 := by
    unfold tsM
    rw [if_neg (not_not_intro (show nI 0 = 0 by decide))]
theorem ts_1 (C : Cf) (N : Nat → Nat) (S : St) (v : Int32) : tsM C N S v (nI 1) = S 9 (nN v) := by
    unfold tsM
    rw [if_pos (show ¬ nI 1 = 0 by decide), if_neg (not_not_intro (show nI 1 = nI 1 by decide))]
theorem ts_2 (C : Cf) (N : Nat → Nat) (S : St) (v : Int32) : tsM C N S v (nI 2) = (C 9 (nN v)).toInt64 := by
    unfold tsM
    rw [if_pos (show ¬ nI 2 = 0 by decide), if_pos (show ¬ nI 2 = nI 1 by decide), if_neg (not_not_intro (show nI 2 = nI 2 by decide))]
theorem ts_3 (C : Cf) (N : Nat → Nat) (S : St) (v : Int32) : tsM C N S v (nI 3) = S 10 (nN v) := by
    unfold tsM
    rw [if_pos (show ¬ nI 3 = 0 by decide), if_pos (show ¬ nI 3 = nI 1 by decide), if_pos (show ¬ nI 3 = nI 2 by decide), if_neg (not_not_intro (show nI 3 = nI 3 by decide))]
theorem ts_4 (C : Cf) (N : Nat → Nat) (S : St) (v : Int32) : tsM C N S v (nI 4) = (blm S (nN v) (N 0)).1.toInt64 := by
    unfold tsM
    rw [if_pos (show ¬ nI 4 = 0 by decide), if_pos (show ¬ nI 4 = nI 1 by decide), if_pos (show ¬ nI 4 = nI 2 by decide), if_pos (show ¬ nI 4 = nI 3 by decide)]
theorem te_W {C : Cf} {N : Nat → Nat} {S : St} {m : Nat} {v q : Int32} (h : Iv C N S m) (hc : cI2 (N 0) v q (nI 0) (nI 6) = 0) : twM C S v q = tellW C S (nN v) (nN q) := by
  obtain ⟨hC, hR, hX, h3, hZ, hW, hE, h13, hq, hB, h10⟩ := h
  obtain ⟨h1, h2⟩ := cI2_0 hc
  obtain ⟨hw, -⟩ := inB_m (by have := hC.n0; omega) h1
  obtain ⟨hk, ek⟩ := inB_k (by decide) h2
  obtain ⟨k, hk0⟩ : ∃ k, k = nN q := ⟨_, rfl⟩
  rw [← hk0] at hk ek ⊢
  rw [ek]
  rcases (show k = 0 ∨ k = 1 ∨ k = 2 ∨ k = 3 ∨ k = 4 ∨ k = 5 ∨ k = 6 by omega) with rfl | rfl | rfl | rfl | rfl | rfl | rfl
  · rw [tw_0]; rfl
  · rw [tw_1]; rfl
  · have h4 := hE.1 _ hw
    rw [tw_2]
    show S 4 (nN v) = (S 4 (nN v)).toInt32.toInt64
    refine (l32 ?_).symm
    rw [h4.1, lN_toInt (by omega)]
    omega
  · rw [tw_3]; rfl
  · rw [tw_4]
    show S 6 (nN v) = if (S 6 (nN v)).toInt32 = 0 then 0 else 1
    rcases hB _ hw with e | e <;> rw [e]
    · rw [if_pos (by decide)]
    · rw [if_neg (by decide)]
  · rw [tw_5]; rfl
  · have h8 := hE.2.1 _ hw
    rw [tw_6]
    show S 8 (nN v) = (S 8 (nN v)).toInt32.toInt64
    exact (l32 (by omega)).symm
theorem blm_z {S : St} {k n : Nat} (hz : ∀ w, n ≤ w → w < 10 → S 11 (10 * k + w) = 0) (hp : ∀ i, 0 ≤ (blm S k i).2) : ∀ j, n + j ≤ 10 → blm S k (n + j) = blm S k n
  | 0, _ => rfl
  | j + 1, hj => by
    rw [show n + (j + 1) = (n + j) + 1 by omega, blm_s, hz (n + j) (by omega) (by omega), if_pos (hp _)]
    exact blm_z hz hp j (by omega)
theorem blm_p (S : St) (k : Nat) : ∀ i, 0 ≤ (blm S k i).2
  | 0 => Int64.le_refl 0
  | i + 1 => by
    rw [blm_s]
    by_cases h : S 11 (10 * k + i) ≤ (blm S k i).2
    · rw [if_pos h]
      exact blm_p S k i
    · rw [if_neg h]
      exact Int64.le_trans (blm_p S k i) (Int64.le_of_lt (Int64.not_le.mp h))
theorem te_S {C : Cf} {N : Nat → Nat} {S : St} {m : Nat} {v q : Int32} (h : Iv C N S m) (hm : m ≤ 700) (hc : cI2 (N 2) v q (nI 0) (nI 4) = 0) : tsM C N S v q = tellS C S (nN v) (nN q) := by
  obtain ⟨hC, hR, hX, h3, hZ, hW, hE, h13, hq, hB, h10⟩ := h
  obtain ⟨h1, h2⟩ := cI2_0 hc
  obtain ⟨hw, -⟩ := inB_m (by have := hC.n2; omega) h1
  obtain ⟨hk, ek⟩ := inB_k (by decide) h2
  obtain ⟨k, hk0⟩ : ∃ k, k = nN q := ⟨_, rfl⟩
  rw [← hk0] at hk ek ⊢
  rw [ek]
  have hn2 := hC.n2
  have hn0 := hC.n0
  rcases (show k = 0 ∨ k = 1 ∨ k = 2 ∨ k = 3 ∨ k = 4 by omega) with rfl | rfl | rfl | rfl | rfl
  · rw [ts_0]; rfl
  · rw [ts_1]; rfl
  · rw [ts_2]; rfl
  · have h4 := h10 _ hw
    rw [ts_3]
    show S 10 (nN v) = (S 10 (nN v)).toInt32.toInt64
    exact (l32 (by omega)).symm
  · rw [ts_4]
    show (blm S (nN v) (N 0)).1.toInt64 = (blm S (nN v) 10).1.toInt64
    have e := blm_z (S := S) (k := nN v) (n := N 0) (fun w a b => hZ.2.2.2.2.2 (nN v) w b (by omega) (Or.inr a)) (blm_p S (nN v)) (10 - N 0) (by omega)
    rw [show N 0 + (10 - N 0) = 10 by omega] at e
    rw [e]
theorem te_Q (Qk : Nat → Int64) (j : Nat) {k : Nat} (hk : k < 3) : (Qk (3 * j + k)).toInt32 = tellQ Qk j k := by
  rcases (show k = 0 ∨ k = 1 ∨ k = 2 by omega) with rfl | rfl | rfl <;> rfl
theorem bs_d : ∀ b, b < 12 → ∀ o, o < 12 → nbr b o = true → bsK b o = decide (b / 4 = o / 4) := by decide +kernel
theorem c2_self (C : Cf) (c i : Nat) : c2 C c i (C c i) = C := by
  funext c' j
  rw [c2_ap]
  split
  · rename_i h; rw [h.1, h.2]
  · rfl
theorem te_K {C : Cf} {v q r : Int32} (hc : cK3 v q r = 0) : rdK C (nN v) (nN q) = swR C (nN v) (nN q) ∧ ckC C (nN v) (nN q) r = swC C (nN v) (nN q) r := by
  obtain ⟨h1, h2, h3, h4⟩ := cK3_0 hc
  obtain ⟨hv, -⟩ := inB_k (by decide) h1
  obtain ⟨hq, -⟩ := inB_k (by decide) h2
  have hb := bs_d _ hv _ hq h3
  unfold rdK swR ckC swC
  rw [hb]
  by_cases e : nN v / 4 = nN q / 4
  · rw [decide_eq_true e, if_pos e, if_pos e]
    refine ⟨rfl, ?_⟩
    show c2 (c2 C 0 (loK (nN v) (nN q)) r) 1 (loK (nN v) (nN q)) (c2 C 0 (loK (nN v) (nN q)) r 1 (loK (nN v) (nN q))) = _
    exact c2_self _ _ _
  · rw [decide_eq_false e, if_neg e, if_neg e]
    refine ⟨rfl, ?_⟩
    show c2 (c2 C 0 (loK (nN v) (nN q)) (C 0 (loK (nN v) (nN q)))) 1 (loK (nN v) (nN q)) r = _
    rw [c2_self]
/-- the law's invariant: what is so, and what would be -/
def LI (C : Cf) (N : Nat → Nat) (S : St) (jC : Cf) (jN : Nat → Nat) (jS : St) (m : Nat) : Prop := Iv C N S m ∧ m ≤ 600 ∧ ZB jC jN jS ∧ jN 0 ≤ N 0 ∧ jN 1 ≤ N 1 ∧ jN 2 ≤ N 2 ∧ Hv C N S m
theorem pass_le {S : St} {mo : Nat} {v : Int32} (h : S 13 0 = lN mo) (hm : mo ≤ 600) (hc : cP2 S v = 0) : mo + nN v ≤ 600 := by
  obtain ⟨h1, h2⟩ := cP2_0 hc
  obtain ⟨hv, ev⟩ := inB_k (by decide) (inB_1 h1)
  obtain ⟨k, hk⟩ : ∃ k, k = nN v := ⟨_, rfl⟩
  rw [← hk] at hv ev ⊢
  rw [h, ev, nI_l (by omega), lN_add, Int64.le_iff_toInt_le, lN_toInt (by omega)] at h2
  have e : (600 : Int64).toInt = 600 := by decide
  omega
