theorem LV_block {C : Cf} {N : Nat → Nat} {S : St} {mo : Nat} (b w d : Nat) (h : LV C N S mo) (hm : mo ≤ 600) (hb : b < 12) (hw : w ≤ 50000) (hd : d ≤ 350) (h13 : S 13 0 = 0) : LV C N (u2 (u2 S 0 b (nI w).toInt64) 1 b ((nI d).toInt64 * ((nI w) + nI 20000).toInt64)) mo := by
  have hC := h.c
  have hn0 := hC.n0
  have hn1 := hC.n1
  have hn2 := hC.n2
  have hc : cB3 S (nI b) (nI w) (nI d) = 0 := by unfold cB3; rw [if_pos (inB_g (Nat.zero_le _) (by omega) (by decide)), if_neg (by rw [inB_g (Nat.zero_le _) hw (by decide)]; decide), if_pos (inB_g (Nat.zero_le _) hd (by decide)), if_pos (by rw [h13]; exact Int64.le_refl 0)]
  exact ⟨by have z := iv_block (v := nI b) (q := nI w) (r := nI d) ((nI d).toInt64 * ((nI w) + nI 20000).toInt64) h.1 hc; rw [nN_I (n := b) (by omega)] at z; exact z, by have z := hv_block (v := nI b) (q := nI w) (r := nI d) h.1 hm h.2.1 hc; rw [nN_I (n := b) (by omega)] at z; exact z, h.2.2.1, h.2.2.2⟩
theorem LV_crack {C : Cf} {N : Nat → Nat} {S : St} {mo : Nat} (b o w : Nat) (h : LV C N S mo) (hm : mo ≤ 600) (hb : b < 12) (ho : o < 12) (hw : w ≤ 100) (hn : nbr b o = true) : LV (swC C b o (nI w)) N S mo := by
  have hC := h.c
  have hn0 := hC.n0
  have hn1 := hC.n1
  have hn2 := hC.n2
  have hc : cK3 (nI b) (nI o) (nI w) = 0 := by unfold cK3; rw [if_neg (by rw [inB_g (Nat.zero_le _) (by omega) (by decide)]; decide), if_pos (inB_g (Nat.zero_le _) (by omega) (by decide)), nN_I (by omega), nN_I (by omega), if_neg (by rw [hn]; decide), if_pos (inB_g (Nat.zero_le _) hw (by decide))]
  exact ⟨by have z := iv_crack (v := nI b) (q := nI o) (r := nI w) h.1 hc; rw [nN_I (n := b) (by omega)] at z; rw [nN_I (n := o) (by omega)] at z; exact z, Hv.mv h.2.1 swC_6 rfl rfl rfl, h.2.2.1, h.2.2.2⟩
theorem LV_rain {C : Cf} {N : Nat → Nat} {S : St} {mo : Nat} (k : Nat) (h : LV C N S mo) (hm : mo ≤ 600) (hk : k ≤ 500) : LV (c2 C 10 0 (nI k)) N S mo := by
  have hC := h.c
  have hn0 := hC.n0
  have hn1 := hC.n1
  have hn2 := hC.n2
  have hc : cR1 (nI k) (nI 0) (nI 500) = 0 := by unfold cR1; rw [if_neg (by rw [inB_g (Nat.zero_le _) hk (by decide)]; decide)]
  exact ⟨iv_rain h.1 hc, Hv.mv h.2.1 (c2_6 (by decide)) rfl rfl rfl, h.2.2.1, h.2.2.2⟩
theorem LV_well {C : Cf} {N : Nat → Nat} {S : St} {mo : Nat} (b : Nat) (r : Bool) (h : LV C N S mo) (hm : mo ≤ 600) (hb : b < 12) (hn : N 0 < 8) : LV (c2 (c2 C 2 (N 0) (nI b)) 3 (N 0) (bI r)) (n2 N 0 (N 0 + 1)) (u2 S 8 (N 0) (-1)) mo := by
  have hC := h.c
  have hn0 := hC.n0
  have hn1 := hC.n1
  have hn2 := hC.n2
  have hz : (0 : Int64).toInt = 0 := rfl
  have hs : Sm (n2 N 0 (N 0 + 1)) (u2 S 8 (N 0) (-1)) := by
    refine ⟨fun w hw => ?_, h.2.2.1.2⟩
    have hw2 : w < N 0 + 1 := hw
    rw [u2_c _ _ _ (show ¬ 5 = 8 by decide)]
    by_cases e : w = N 0
    · rw [h.1.2.2.2.2.1.1 5 w (by decide) (by decide) (by omega) (by omega), hz]
      omega
    · exact h.2.2.1.1 w (by omega)
  exact ⟨iv_well h.1 (by omega) (inB_g (Nat.zero_le _) (by omega) (by decide)), Hv.mv h.2.1 (Eq.trans (c2_6 (by decide)) (c2_6 (by decide))) rfl (u2_c _ _ _ (by decide)) (u2_c _ _ _ (by decide)), hs, ⟨by show N 0 + 1 ≤ 8; omega, h.2.2.2.2⟩⟩
theorem LV_open {C : Cf} {N : Nat → Nat} {S : St} {mo : Nat} (n k : Nat) (h : LV C N S mo) (hm : mo ≤ 600) (hn : n < N 0) (hk : C 3 n = 0 → k ≤ 1000) (hk2 : ¬ C 3 n = 0 → k ≤ 10) : LV (c2 C 4 n (nI k)) N S mo := by
  have hC := h.c
  have hn0 := hC.n0
  have hn1 := hC.n1
  have hn2 := hC.n2
  have hc : cO2 C (N 0) (nI n) (nI k) = 0 := by have h0 := hC.n0; unfold cO2; rw [if_pos (inB_l hn (by omega)), nN_I (by omega)]; rcases Decidable.em (C 3 n = 0) with h | h; exact (if_pos h).trans (if_pos (inB_g (Nat.zero_le _) (hk h) (by decide))); exact (if_neg h).trans (if_pos (inB_g (Nat.zero_le _) (hk2 h) (by decide)))
  exact ⟨by have z := iv_open (v := nI n) (q := nI k) h.1 hc; rw [nN_I (n := n) (by omega)] at z; exact z, Hv.mv h.2.1 (c2_6 (by decide)) rfl rfl rfl, h.2.2.1, h.2.2.2⟩
theorem LV_clean {C : Cf} {N : Nat → Nat} {S : St} {mo : Nat} (n : Nat) (h : LV C N S mo) (hm : mo ≤ 600) (hn : n < N 0) : LV C N (u2 S 4 n 0) mo := by
  have hC := h.c
  have hn0 := hC.n0
  have hn1 := hC.n1
  have hn2 := hC.n2
  exact ⟨iv_clean h.1 hn, Hv.mv h.2.1 rfl rfl (u2_c _ _ _ (by decide)) (u2_c _ _ _ (by decide)), h.2.2.1, h.2.2.2⟩
theorem LV_use {C : Cf} {N : Nat → Nat} {S : St} {mo : Nat} (a d : Nat) (h : LV C N S mo) (hm : mo ≤ 600) (hd0 : 1 ≤ d) (hd : d ≤ 50) (hn : N 1 < 3) : LV (c2 (c2 C 5 (N 1) (nI a)) 6 (N 1) (nI d)) (n2 N 1 (N 1 + 1)) S mo := by
  have hC := h.c
  have hn0 := hC.n0
  have hn1 := hC.n1
  have hn2 := hC.n2
  exact ⟨iv_use h.1 (by omega), hv_use h.2.1 (inB_g hd0 hd (by decide)), h.2.2.1, ⟨h.2.2.2.1, by show N 1 + 1 ≤ 3; omega, h.2.2.2.2.2⟩⟩
theorem LV_spring {C : Cf} {N : Nat → Nat} {S : St} {mo : Nat} (b a d : Nat) (h : LV C N S mo) (hm : mo ≤ 600) (hb : b < 12) (hn : N 2 < 3) : LV (c2 (c2 (c2 C 7 (N 2) (nI b)) 8 (N 2) (nI a)) 9 (N 2) (nI d)) (n2 N 2 (N 2 + 1)) S mo := by
  have hC := h.c
  have hn0 := hC.n0
  have hn1 := hC.n1
  have hn2 := hC.n2
  have hz : (0 : Int64).toInt = 0 := rfl
  have hs : Sm (n2 N 2 (N 2 + 1)) S := by
    refine ⟨h.2.2.1.1, fun k hk => ?_⟩
    have hk2 : k < N 2 + 1 := hk
    by_cases e : k = N 2
    · rw [h.1.2.2.2.2.1.2.2.2.2.1 9 k (by decide) (by decide) (by omega) (by omega), hz]
      omega
    · exact h.2.2.1.2 k (by omega)
  exact ⟨iv_spring h.1 (by omega) (inB_g (Nat.zero_le _) (by omega) (by decide)), Hv.mv h.2.1 (Eq.trans (c2_6 (by decide)) (Eq.trans (c2_6 (by decide)) (c2_6 (by decide)))) rfl rfl rfl, hs, ⟨h.2.2.2.1, h.2.2.2.2.1, by show N 2 + 1 ≤ 3; omega⟩⟩
theorem LV_promise {C : Cf} {N : Nat → Nat} {S : St} {mo : Nat} (n k : Nat) (h : LV C N S mo) (hm : mo ≤ 600) (hn : n < N 2) : LV (c2 C 9 n (nI k)) N S mo := by
  have hC := h.c
  have hn0 := hC.n0
  have hn1 := hC.n1
  have hn2 := hC.n2
  exact ⟨iv_promise h.1 hn, Hv.mv h.2.1 (c2_6 (by decide)) rfl rfl rfl, h.2.2.1, h.2.2.2⟩
theorem LV_tracer {C : Cf} {N : Nat → Nat} {S : St} {mo : Nat} (b : Nat) (x : Int64) (h : LV C N S mo) (hm : mo ≤ 600)  : LV C N (u2 S 2 b x) mo := by
  have hC := h.c
  have hn0 := hC.n0
  have hn1 := hC.n1
  have hn2 := hC.n2
  exact ⟨iv_tracer x h.1, Hv.mv h.2.1 rfl rfl (u2_c _ _ _ (by decide)) (u2_c _ _ _ (by decide)), h.2.2.1, h.2.2.2⟩
/-- what a turn that tells something comes to -/
def TP (x y : Nat → Nat) (cI cJ cZ : ClassId) (N0 : Nat → Nat) (Qk : Nat → Int64) (Z : St) (jC : Cf) (jN : Nat → Nat) (jS : St) (jQ : Nat → Int64) (jZ : St) (mo : Nat) : Option Value → va_W → Prop := fun v w => v = some (.int (nI 1)) ∧ ∃ (C : Cf) (N : Nat → Nat) (S : St), LV C N S mo ∧ (N0 0 ≤ N 0 ∧ N0 1 ≤ N 1 ∧ N0 2 ≤ N 2) ∧ w = wX2 x cI cJ cZ C N S Qk Z jC jN jS jQ jZ ++ wL y cI cJ C N S Qk
theorem bs0 {b : Nat} (hb : b < 12) (h : ¬ bsd b 0 = -1) : bsd b 0 = nI (b + 1) ∧ b % 4 < 3 := by
  by_cases h4 : b % 4 < 3
  · exact ⟨(if_pos rfl).trans (if_pos h4), h4⟩
  · exact absurd ((if_pos rfl).trans (if_neg h4)) h
theorem bs2 {b : Nat} (hb : b < 12) (h : ¬ bsd b 2 = -1) : bsd b 2 = nI (b + 4) ∧ b < 8 := by
  by_cases h4 : b < 8
  · refine ⟨?_, h4⟩
    unfold bsd
    rw [if_neg (by decide), if_neg (by decide), if_pos rfl, if_pos h4]
  · refine absurd ?_ h
    unfold bsd
    rw [if_neg (by decide), if_neg (by decide), if_pos rfl, if_neg h4]
theorem nb_1 : ∀ b, b < 12 → b % 4 < 3 → nbr b (b + 1) = true ∧ nbr (b + 1) b = true := by decide +kernel
theorem nb_4 : ∀ b, b < 8 → nbr b (b + 4) = true ∧ nbr (b + 4) b = true := by decide +kernel
theorem sw_1 {C : Cf} {b : Nat} {r : Int32} (h : b % 4 < 3) : (swC C b (b + 1) r = c2 C 0 b r ∧ swR C b (b + 1) = C 0 b) ∧ swC C (b + 1) b r = c2 C 0 b r ∧ swR C (b + 1) b = C 0 b := by
  have e : b / 4 = (b + 1) / 4 := by omega
  have l1 : loK b (b + 1) = b := by unfold loK; rw [if_neg (by omega)]
  have l2 : loK (b + 1) b = b := by unfold loK; rw [if_pos (by omega)]
  unfold swC swR
  rw [if_pos e, if_pos e, if_pos e.symm, if_pos e.symm, l1, l2]
  exact ⟨⟨rfl, rfl⟩, rfl, rfl⟩
theorem sw_4 {C : Cf} {b : Nat} {r : Int32} : (swC C b (b + 4) r = c2 C 1 b r ∧ swR C b (b + 4) = C 1 b) ∧ swC C (b + 4) b r = c2 C 1 b r ∧ swR C (b + 4) b = C 1 b := by
  have e : ¬ b / 4 = (b + 4) / 4 := by omega
  have e2 : ¬ (b + 4) / 4 = b / 4 := by omega
  have l1 : loK b (b + 4) = b := by unfold loK; rw [if_neg (by omega)]
  have l2 : loK (b + 4) b = b := by unfold loK; rw [if_pos (by omega)]
  unfold swC swR
  rw [if_neg e, if_neg e, if_neg e2, if_neg e2, l1, l2]
  exact ⟨⟨rfl, rfl⟩, rfl, rfl⟩
theorem lrQ_w5 (C : Cf) (N : Nat → Nat) (S : St) (x : Int32) : upd (lrQ C N S) 5 x = lrQ (c2 C 10 0 x) N S := by
  funext i
  show (if i = 5 then x else lrQ C N S i) = _
  by_cases hi : i = 5
  · rw [if_pos hi, hi]
    rfl
  · rw [if_neg hi]
    unfold lrQ
    simp only [if_neg hi]
theorem lrQ_w3 (C : Cf) (N : Nat → Nat) (S : St) (k : Nat) : upd (lrQ C N S) 3 (nI k) = lrQ C (n2 N 1 k) S := by
  funext i
  show (if i = 3 then nI k else lrQ C N S i) = _
  by_cases hi : i = 3
  · rw [if_pos hi, hi]
    rfl
  · rw [if_neg hi]
    unfold lrQ
    simp only [if_neg hi]
    rfl
theorem lrQ_w2 (C : Cf) (N : Nat → Nat) (S : St) (k : Nat) : upd (lrQ C N S) 2 (nI k) = lrQ C (n2 N 2 k) S := by
  funext i
  show (if i = 2 then nI k else lrQ C N S i) = _
  by_cases hi : i = 2
  · rw [if_pos hi, hi]
    rfl
  · rw [if_neg hi]
    unfold lrQ
    simp only [if_neg hi]
    rfl
theorem lrQ_w1 (C : Cf) (N : Nat → Nat) (S : St) (k : Nat) : upd (lrQ C N S) 1 (nI k) = lrQ C (n2 N 0 k) (u2 S 8 (N 0) (-1)) := by
  funext i
  show (if i = 1 then nI k else lrQ C N S i) = _
  by_cases hi : i = 1
  · rw [if_pos hi, hi]
    rfl
  · rw [if_neg hi]
    unfold lrQ
    simp only [if_neg hi]
    rfl
theorem lrQ_w0 (C : Cf) (N : Nat → Nat) (S : St) {x : Int32} {v : Int64} (h : v.toInt32 = x) : upd (lrQ C N S) 0 x = lrQ C N (u2 S 13 0 v) := by
  subst h
  funext i
  show (if i = 0 then v.toInt32 else lrQ C N S i) = _
  by_cases hi : i = 0
  · rw [if_pos hi, hi]
    show v.toInt32 = (u2 S 13 0 v 13 0).toInt32
    rw [u2_same]
  · rw [if_neg hi]
    unfold lrQ
    simp only [if_neg hi]
    rfl
theorem lrE_new (C : Cf) (N : Nat → Nat) (S : St) : lrE C N S = lrE C (n2 N 0 (N 0 + 1)) (u2 S 8 (N 0) (-1)) := by
  funext i
  unfold lrE
  by_cases h0 : i % 7 = 0
  · rw [if_pos h0, if_pos h0]
  rw [if_neg h0, if_neg h0]
  by_cases h1 : i % 7 = 1
  · rw [if_pos h1, if_pos h1]
  rw [if_neg h1, if_neg h1]
  by_cases h2 : i % 7 = 2
  · rw [if_pos h2, if_pos h2]
  rw [if_neg h2, if_neg h2]
  by_cases h3 : i % 7 = 3
  · rw [if_pos h3, if_pos h3]; rfl
  rw [if_neg h3, if_neg h3]
  by_cases h4 : i % 7 = 4
  · rw [if_pos h4, if_pos h4]; rfl
  rw [if_neg h4, if_neg h4]
  by_cases h5 : i % 7 = 5
  · rw [if_pos h5, if_pos h5]; rfl
  rw [if_neg h5, if_neg h5]
  show _ = if i / 7 < N 0 + 1 then (u2 S 8 (N 0) (-1) 8 (i / 7)).toInt32 + 1 else 0
  by_cases hk : i / 7 < N 0
  · rw [if_pos hk, if_pos (by omega), u2_ne _ _ _ (show ¬ i / 7 = N 0 by omega)]
  · rw [if_neg hk]
    by_cases he : i / 7 = N 0
    · rw [if_pos (by omega), he, u2_same]
      decide
    · rw [if_neg (by omega)]

theorem bI_1 (r : Bool) : (if ¬ bI r = nI 1 then false else true) = r := by cases r <;> decide
abbrev rm_L_tells : Room := { frames := 3, cells := 0, slots := 0, locals := 72 }
