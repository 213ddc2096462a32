theorem z_lt (a b : Int64) : a < b ↔ a.toInt < b.toInt := Int64.lt_iff_toInt_lt
theorem z_le (a b : Int64) : a ≤ b ↔ a.toInt ≤ b.toInt := Int64.le_iff_toInt_le
theorem z_eq (a b : Int64) : a = b ↔ a.toInt = b.toInt := Int64.toInt_inj.symm
theorem z_add {x y : Int64} (h1 : -9223372036854775808 ≤ x.toInt + y.toInt) (h2 : x.toInt + y.toInt < 9223372036854775808) : (x + y).toInt = x.toInt + y.toInt := by
  rw [Int64.toInt_add]
  exact Int.bmod_eq_of_le (by omega) (by omega)
theorem z_sub {x y : Int64} (h1 : -9223372036854775808 ≤ x.toInt - y.toInt) (h2 : x.toInt - y.toInt < 9223372036854775808) : (x - y).toInt = x.toInt - y.toInt := by
  rw [Int64.toInt_sub]
  exact Int.bmod_eq_of_le (by omega) (by omega)
theorem z_mul {x y : Int64} (h1 : -9223372036854775808 ≤ x.toInt * y.toInt) (h2 : x.toInt * y.toInt < 9223372036854775808) : (x * y).toInt = x.toInt * y.toInt := by
  rw [Int64.toInt_mul]
  exact Int.bmod_eq_of_le (by omega) (by omega)
theorem wd_m' {C : Cf} {S : St} {w : Nat} (hm : C 4 w = nI (muN C w) ∧ muN C w ≤ 1000) (hc : S 4 w = lN (scN S w) ∧ scN S w ≤ 100) : (C 4 w).toInt64 * (100 - S 4 w) / 100 = wd C S w := by
  have h1 : (C 4 w).toInt64 = lN (muN C w) := by
    have := hm.2
    rw [hm.1]
    exact nI_l (by omega)
  have h2 := n_mul hm.2 (show 100 - scN S w ≤ 100 by omega)
  rw [h1, hc.1]
  show lN _ * (lN 100 - lN _) / lN 100 = lN _
  rw [lN_sub hc.2, lN_mul, pk_lDiv (by omega) (by decide) (by decide)]
theorem itr_c {f : Nat → St → St} {c : Nat} (h : ∀ n S, f n S c = S c) (S : St) : ∀ n, itr f S n c = S c
  | 0 => rfl
  | n + 1 => (h n _).trans (itr_c h S n)
theorem chgS_c {C : Cf} {b w k : Nat} {x : Int64} {S : St} {c : Nat} (h : ¬ c = 11) : chgS C b w x k S c = S c := by
  unfold chgS
  split
  · rfl
  · exact u2_c _ _ _ h
theorem giveS_c {S : St} {b : Nat} {x : Int64} {c : Nat} (h0 : ¬ c = 0) (h1 : ¬ c = 1) (h2 : ¬ c = 2) : giveS S b x c = S c := by
  unfold giveS
  rw [u2_c _ _ _ h0, u2_c _ _ _ h2, u2_c _ _ _ h1]
theorem giveS_0 {S : St} {b : Nat} {x : Int64} {j : Nat} : giveS S b x 0 j = if j = b then S 0 b - x else S 0 j := by
  unfold giveS
  rw [u2_ap]
  by_cases h : j = b
  · rw [if_pos ⟨rfl, h⟩, if_pos h]
  · rw [if_neg (fun z => h z.2), if_neg h, u2_c _ _ _ (by decide), u2_c _ _ _ (by decide)]
theorem growS_c {S : St} {w : Nat} {x : Int64} {c : Nat} (h : ¬ c = 4) : growS S w x c = S c := u2_c _ _ _ h
theorem dr2_c {C : Cf} {S : St} {w : Nat} {x hot : Int64} {c : Nat} (h : ¬ c = 12) : dr2 C S w x hot c = dr1 C S w c := by
  unfold dr2
  rw [u2_c _ _ _ h, u2_c _ _ _ h, u2_c _ _ _ h]
theorem dr3_c {C : Cf} {S : St} {w : Nat} {x hot : Int64} {c : Nat} (h : ¬ c = 12) (h4 : ¬ c = 4) : dr3 C S w x hot c = dr1 C S w c := by
  unfold dr3
  split
  · exact dr2_c h
  · split
    · exact dr2_c h
    · rw [growS_c h4]
      exact dr2_c h
theorem dv_ok {x : Int64} {c : Nat} (h : 0 ≤ x.toInt) (hc : 0 < c) (hc2 : c < 2 ^ 63) : (x / lN c).toInt = x.toInt / c := by
  obtain ⟨n, hn, rfl⟩ := pk_lOf (x := x) (fun z => by rw [z_lt] at z; have : (0 : Int64).toInt = 0 := rfl; omega)
  rw [pk_lDiv hn hc hc2, pk_lT hn, pk_lT (Nat.lt_of_le_of_lt (Nat.div_le_self _ _) hn)]
  rfl
theorem wd_ok {C : Cf} {S : St} {w : Nat} (hm : muN C w ≤ 1000) : 0 ≤ (wd C S w).toInt ∧ (wd C S w).toInt ≤ 1000 := by
  have h2 := Nat.mul_le_mul hm (show 100 - scN S w ≤ 100 by omega)
  unfold wd
  rw [lN_toInt (by omega)]
  omega
theorem drW_ok {C : Cf} {S : St} {w : Nat} (hm : muN C w ≤ 1000) (h0 : 0 ≤ (S 0 (plN C w)).toInt) : 0 ≤ (drW C S w).toInt ∧ (drW C S w).toInt ≤ (S 0 (plN C w)).toInt ∧ (drW C S w).toInt ≤ 1000 := by
  have h1 := wd_ok (S := S) hm
  have h2 : (S 0 (plN C w) / 10).toInt = (S 0 (plN C w)).toInt / 10 := dv_ok h0 (by decide) (by decide)
  unfold drW
  split
  · rename_i h
    rw [z_lt] at h
    omega
  · rename_i h
    rw [z_lt] at h
    omega
theorem sc_of {S : St} {w n : Nat} (h : S 4 w = lN n) (hn : n ≤ 100) : S 4 w = lN (scN S w) ∧ scN S w ≤ 100 := by
  have : scN S w = n := by
    unfold scN
    rw [h, lN_toInt (by omega)]
    rfl
  rw [this]
  exact ⟨h, hn⟩
theorem drawS_0 {C : Cf} {N : Nat → Nat} {S : St} {w j : Nat} : drawS C N S w 0 j = if j = plN C w then S 0 (plN C w) - drW C S w else S 0 j := by
  unfold drawS
  rw [itr_c (fun n T => chgS_c (by decide)), dr3_c (by decide) (by decide)]
  unfold dr1
  rw [findS_oth _ _ _ (by decide) (by decide), giveS_0]
  rfl
theorem drawS_13 {C : Cf} {N : Nat → Nat} {S : St} {w : Nat} {c : Nat} (h0 : ¬ c = 0) (h1 : ¬ c = 1) (h2 : ¬ c = 2) (h4 : ¬ c = 4) (h5 : ¬ c = 5) (h7 : ¬ c = 7) (h8 : ¬ c = 8) (h11 : ¬ c = 11) (h12 : ¬ c = 12) : drawS C N S w c = S c := by
  unfold drawS
  rw [itr_c (fun n T => chgS_c h11), dr3_c h12 h4]
  unfold dr1
  rw [findS_oth _ _ _ h7 h8, giveS_c h0 h1 h2, u2_c _ _ _ h5]
theorem drawS_8 {C : Cf} {N : Nat → Nat} {S : St} {w j : Nat} : drawS C N S w 8 j = S 8 j ∨ drawS C N S w 8 j = S 13 0 := by
  unfold drawS
  rw [itr_c (fun n T => chgS_c (by decide)), dr3_c (by decide) (by decide)]
  unfold dr1 findS
  split
  · left
    rw [u2_c _ _ _ (by decide), giveS_c (by decide) (by decide) (by decide), u2_c _ _ _ (by decide)]
  · split
    · left
      rw [u2_c _ _ _ (by decide), giveS_c (by decide) (by decide) (by decide), u2_c _ _ _ (by decide)]
    · rw [u2_ap]
      split
      · right
        rw [giveS_c (by decide) (by decide) (by decide), u2_c _ _ _ (by decide)]
      · left
        rw [u2_c _ _ _ (by decide), giveS_c (by decide) (by decide) (by decide), u2_c _ _ _ (by decide)]
theorem dr1_4 {C : Cf} {S : St} {w : Nat} : dr1 C S w 4 = S 4 := by
  unfold dr1
  rw [findS_oth _ _ _ (by decide) (by decide), giveS_c (by decide) (by decide) (by decide), u2_c _ _ _ (by decide)]
theorem drawS_4 {C : Cf} {N : Nat → Nat} {S : St} {w : Nat} : drawS C N S w 4 = S 4 ∨ (¬ drW C S w ≤ 0 ∧ drawS C N S w 4 = fun j => if j = w then (if 100 < S 4 w + 1 + drW C S w / 500 then 100 else S 4 w + 1 + drW C S w / 500) else S 4 j) := by
  unfold drawS
  rw [itr_c (fun n T => chgS_c (by decide))]
  unfold dr3
  split
  · left
    rw [dr2_c (by decide), dr1_4]
  · split
    · left
      rw [dr2_c (by decide), dr1_4]
    · right
      rename_i h
      refine ⟨h, ?_⟩
      funext j
      unfold growS
      rw [u2_ap, dr2_c (by decide), dr1_4]
      by_cases hj : j = w
      · rw [if_pos ⟨rfl, hj⟩, if_pos hj]
      · rw [if_neg (fun z => hj z.2), if_neg hj]
theorem dw1 (C : Cf) (N : Nat → Nat) (S : St) (k : Int) (hC : Cok C N) (hW : Wk k S) (hk : k ≤ 1099511627776) (hE : Wel N S) (w : Nat) (hw : w < N 0) : Wk k (dwS C N w S) ∧ Wel N (dwS C N w S) := by
  unfold dwS
  split
  · exact ⟨hW, hE⟩
  · have hb := (hC.pl hw).2
    have hd := drW_ok (S := S) (hC.mu hw).2 (hW _ hb).1
    refine ⟨fun b hb2 => ?_, fun w2 hw2 => ?_, fun w2 hw2 => ?_, ?_⟩
    · rw [drawS_0]
      have h1 := hW _ hb
      have h2 := hW _ hb2
      split
      · rw [z_sub (by omega) (by omega)]
        omega
      · exact h2
    · rcases drawS_4 (C := C) (N := N) (S := S) (w := w) with h | ⟨hp, h⟩
      · exact scok_c h (hE.1 w2 hw2)
      · by_cases hj : w2 = w
        · subst hj
          obtain ⟨x, hx, ex⟩ := pk_lOf (x := drW C S w2) (fun z => by rw [z_lt] at z; have : (0 : Int64).toInt = 0 := rfl; omega)
          have hx2 : x ≤ 1000 := by
            have := hd.2.2
            rw [ex, pk_lT hx] at this
            omega
          have hs := hE.1 w2 hw2
          have e2 : S 4 w2 + 1 + drW C S w2 / 500 = lN (scN S w2 + 1 + x / 500) := by
            rw [ex, hs.1]
            show lN _ + lN 1 + lN x / lN 500 = _
            rw [pk_lDiv hx (by decide) (by decide), lN_add, lN_add]
          have e3 : drawS C N S w2 4 w2 = (if 100 < S 4 w2 + 1 + drW C S w2 / 500 then 100 else S 4 w2 + 1 + drW C S w2 / 500) := by
            rw [h]
            exact if_pos rfl
          have h3 := hs.2
          have hl : (100 : Int64) < lN (scN S w2 + 1 + x / 500) ↔ 100 < scN S w2 + 1 + x / 500 := lN_lt (a := 100) (by decide) (by omega)
          rw [e2] at e3
          by_cases hh : 100 < scN S w2 + 1 + x / 500
          · rw [if_pos (hl.mpr hh)] at e3
            exact sc_of (n := 100) e3 (by decide)
          · rw [if_neg (fun z => hh (hl.mp z))] at e3
            exact sc_of e3 (by omega)
        · have e3 : drawS C N S w 4 w2 = S 4 w2 := by
            rw [h]
            exact if_neg hj
          have hs := hE.1 w2 hw2
          exact sc_of (e3.trans hs.1) hs.2
    · rcases drawS_8 (C := C) (N := N) (S := S) (w := w) (j := w2) with h | h
      · rw [h]
        exact hE.2.1 w2 hw2
      · rw [h]
        have := hE.2.2
        omega
    · rw [drawS_13 (by decide) (by decide) (by decide) (by decide) (by decide) (by decide) (by decide) (by decide) (by decide)]
      exact hE.2.2
theorem dw_ok' (C : Cf) (N : Nat → Nat) (S : St) (k : Int) (hC : Cok C N) (hW : Wk k S) (hk : k ≤ 1099511627776) (hE : Wel N S) : ∀ n, n ≤ N 0 → Wk k (itr (dwS C N) S n) ∧ Wel N (itr (dwS C N) S n)
  | 0, _ => ⟨hW, hE⟩
  | n + 1, h => dw1 C N _ k hC (dw_ok' C N S k hC hW hk hE n (by omega)).1 hk (dw_ok' C N S k hC hW hk hE n (by omega)).2 n h
theorem q_of {S : St} {n : Nat} (h : S 14 0 = lN n) (hn : n < 2 ^ 31) : S 14 0 = lN (qN S) ∧ qN S = n := by
  have : qN S = n := by
    unfold qN
    rw [h, lN_toInt hn]
    rfl
  rw [this]
  exact ⟨h, rfl⟩
theorem shk_q' (S : St) (h : S 14 0 = lN (qN S) ∧ qN S ≤ 900000) : ∀ n, n ≤ 12 → itr shS S n 14 0 = lN (qN (itr shS S n)) ∧ qN (itr shS S n) ≤ qN S + n
  | 0, _ => ⟨h.1, Nat.le_refl _⟩
  | n + 1, hn => by
    obtain ⟨h1, h2⟩ := shk_q' S h n (by omega)
    have hs := h.2
    have e : itr shS S (n + 1) 14 0 = (if itr shS S n 3 n ≤ 3000 then itr shS S n else u2 (itr shS S n) 14 0 (itr shS S n 14 0 + 1)) 14 0 := by
      show shS n (itr shS S n) 14 0 = _
      unfold shS
      rw [u2_c _ _ _ (by decide)]
    by_cases hc : itr shS S n 3 n ≤ 3000
    · rw [if_pos hc, h1] at e
      obtain ⟨a, b⟩ := q_of e (by omega)
      exact ⟨a, by omega⟩
    · rw [if_neg hc, u2_same, h1, lN_1] at e
      obtain ⟨a, b⟩ := q_of e (by omega)
      exact ⟨a, by omega⟩
theorem warm_c {S : St} {b c : Nat} (h : ¬ c = 1) : warmS S b c = S c := by
  unfold warmS
  split
  · rfl
  · exact u2_c _ _ _ h
theorem rn_0 {C : Cf} {S : St} {b j : Nat} : rnS C b S 0 j = if 8 ≤ b ∧ j = b then S 0 b + (C 10 0).toInt64 else S 0 j := by
  unfold rnS takeS
  by_cases h : b < 8
  · rw [if_pos h, if_neg (by omega)]
  · rw [if_neg h, u2_c _ _ _ (by decide), u2_c _ _ _ (by decide), u2_ap]
    by_cases hj : j = b
    · rw [if_pos ⟨rfl, hj⟩, if_pos ⟨by omega, hj⟩]
    · rw [if_neg (fun z => hj z.2), if_neg (fun z => hj z.2)]
theorem ra_0 {C : Cf} {S : St} : ∀ n, ∀ j, itr (raS C) S n 0 j = if 8 ≤ j ∧ j < n then S 0 j + (C 10 0).toInt64 else S 0 j
  | 0, j => (if_neg (by omega)).symm
  | n + 1, j => by
    show warmS (rnS C n (itr (raS C) S n)) n 0 j = _
    rw [warm_c (by decide), rn_0, ra_0 n, ra_0 n]
    by_cases h1 : 8 ≤ n ∧ j = n
    · obtain ⟨h1, rfl⟩ := h1
      rw [if_pos ⟨h1, rfl⟩, if_neg (by omega), if_pos (by omega)]
    · rw [if_neg h1]
      by_cases h2 : 8 ≤ j ∧ j < n
      · rw [if_pos h2, if_pos (by omega)]
      · rw [if_neg h2, if_neg (by omega)]
theorem ra_ok' (C : Cf) (S : St) (k : Int) (hR : Rok C) (hW : Wk k S) (h0 : 0 ≤ k) (hk : k + 500 ≤ 1099511627776) : ∀ n, n ≤ 12 → Wk (k + 500) (itr (raS C) S n) ∧ (n < 12 → Wk (k + 500) (rnS C n (itr (raS C) S n))) := by
  intro n hn
  have hr : 0 ≤ ((C 10 0).toInt64).toInt ∧ ((C 10 0).toInt64).toInt ≤ 500 := by
    rw [Int32.toInt_toInt64]
    exact hR
  refine ⟨fun b hb => ?_, fun hn2 b hb => ?_⟩
  · rw [ra_0 n]
    have := hW b hb
    split
    · rw [z_add (by omega) (by omega)]
      omega
    · omega
  · rw [rn_0, ra_0 n, ra_0 n]
    have := hW b hb
    by_cases h1 : 8 ≤ n ∧ b = n
    · obtain ⟨h1, rfl⟩ := h1
      rw [if_pos ⟨h1, rfl⟩, if_neg (by omega), z_add (by omega) (by omega)]
      omega
    · rw [if_neg h1]
      split
      · rw [z_add (by omega) (by omega)]
        omega
      · omega
theorem shW_c {C : Cf} {N : Nat → Nat} {w : Nat} {S : St} {c : Nat} (h5 : ¬ c = 5) (h6 : ¬ c = 6) : shW C N w S c = S c := by
  unfold shW
  rw [u2_c _ _ _ h6, u2_c _ _ _ h5]
theorem m1_c {C : Cf} {N : Nat → Nat} {S : St} {c : Nat} (h5 : ¬ c = 5) (h6 : ¬ c = 6) (h13 : ¬ c = 13) : m1S C N S c = S c := by
  unfold m1S
  rw [itr_c (fun n T => shW_c h5 h6), u2_c _ _ _ h13]
theorem m1_ok' (C : Cf) (N : Nat → Nat) (S : St) (k : Int) (hW : Wk k S) (hE : Wel N S) (hm : (S 13 0).toInt ≤ 900) : Wk k (m1S C N S) ∧ Wel N (m1S C N S) := by
  have h13 : m1S C N S 13 0 = S 13 0 + 1 := by
    unfold m1S
    rw [itr_c (fun n T => shW_c (by decide) (by decide)), u2_same]
  have h1 : (1 : Int64).toInt = 1 := rfl
  have hp := hE.2.2.1
  refine ⟨hW.row (m1_c (by decide) (by decide) (by decide)), fun w hw => scok_c (m1_c (by decide) (by decide) (by decide)) (hE.1 w hw), fun w hw => ?_, ?_⟩
  · rw [m1_c (by decide) (by decide) (by decide)]
    exact hE.2.1 w hw
  · rw [h13, z_add (by omega) (by omega)]
    omega
theorem clr_c {k : Nat} {S : St} {n c : Nat} (h : ¬ c = 11) : clrS k S n c = S c := by
  unfold clrS
  exact itr_c (fun n T => u2_c _ _ _ h) S n
theorem note_c {S : St} {k : Nat} {x : Int64} {c : Nat} (h9 : ¬ c = 9) (h10 : ¬ c = 10) (h11 : ¬ c = 11) : noteS S k x c = S c := by
  unfold noteS
  split
  · rw [u2_c _ _ _ h10, u2_c _ _ _ h9]
  · rw [clr_c h11, u2_c _ _ _ h10, u2_c _ _ _ h9]
theorem feG_ok {C : Cf} {S : St} {k : Nat} (h : 0 ≤ (S 0 (spN C k)).toInt) : 0 ≤ (feG C S k).toInt ∧ (feG C S k).toInt ≤ (S 0 (spN C k)).toInt ∧ (feG C S k).toInt ≤ 50 := by
  have h2 : (S 0 (spN C k) / 100).toInt = (S 0 (spN C k)).toInt / 100 := dv_ok h (by decide) (by decide)
  have h50 : (50 : Int64).toInt = 50 := rfl
  have hz : (0 : Int64).toInt = 0 := rfl
  unfold feG
  split
  · omega
  · split
    · rename_i h3
      rw [z_lt] at h3
      omega
    · rename_i h3
      rw [z_lt] at h3
      omega
theorem fe_0 {C : Cf} {S : St} {k j : Nat} : feS C k S 0 j = if j = spN C k then S 0 (spN C k) - feG C S k else S 0 j := by
  unfold feS
  rw [u2_c _ _ _ (by decide), note_c (by decide) (by decide) (by decide), giveS_0]
theorem fe_ok' (C : Cf) (N : Nat → Nat) (S : St) (k : Int) (hC : Cok C N) (hW : Wk k S) (hk : k ≤ 1099511627776) : ∀ n, n ≤ N 2 → Wk k (itr (feS C) S n)
  | 0, _ => hW
  | n + 1, hn => by
    have ih := fe_ok' C N S k hC hW hk n (by omega)
    have hs := (hC.sp (show n < N 2 from hn)).2
    have hg := feG_ok (C := C) (k := n) (ih _ hs).1
    have hb0 := ih _ hs
    intro b hb
    show 0 ≤ (feS C n (itr (feS C) S n) 0 b).toInt ∧ _
    have e : itr (feS C) S (n + 1) 0 b = feS C n (itr (feS C) S n) 0 b := rfl
    rw [e, fe_0]
    split
    · rw [z_sub (by omega) (by omega)]
      omega
    · exact ih b hb
theorem dw_c {C : Cf} {N : Nat → Nat} {S : St} {w : Nat} {c : Nat} (h0 : ¬ c = 0) (h1 : ¬ c = 1) (h2 : ¬ c = 2) (h4 : ¬ c = 4) (h5 : ¬ c = 5) (h7 : ¬ c = 7) (h8 : ¬ c = 8) (h11 : ¬ c = 11) (h12 : ¬ c = 12) : dwS C N w S c = S c := by
  unfold dwS
  split
  · rfl
  · exact drawS_13 h0 h1 h2 h4 h5 h7 h8 h11 h12
theorem bL_01 (b : Bool) : bL b = 0 ∨ bL b = 1 := by cases b <;> decide
theorem sh_6 (C : Cf) (N : Nat → Nat) (S : St) (n : Nat) : ∀ w, w < n → itr (shW C N) S n 6 w = 0 ∨ itr (shW C N) S n 6 w = 1 := by
  induction n with
  | zero => intro w hw; omega
  | succ n ih =>
    intro w hw
    have e : itr (shW C N) S (n + 1) 6 w = shW C N n (itr (shW C N) S n) 6 w := rfl
    rw [e]
    unfold shW
    rw [u2_ap]
    by_cases h : w = n
    · rw [if_pos ⟨rfl, h⟩]
      exact bL_01 _
    · rw [if_neg (fun z => h z.2), u2_c _ _ _ (by decide)]
      exact ih w (by omega)
theorem d6_ok' (C : Cf) (N : Nat → Nat) (S : St) (hB : Bok N S) : ∀ n, n ≤ N 0 → Bok N (itr (dwS C N) (m1S C N S) n) := by
  intro n hn w hw
  rw [itr_c (fun n T => dw_c (by decide) (by decide) (by decide) (by decide) (by decide) (by decide) (by decide) (by decide) (by decide))]
  exact sh_6 C N _ (N 0) w hw
theorem gb1_c {C : Cf} {br W : Int64} {w : Nat} {S : St} {c : Nat} (h : ¬ c = 5) : gb1 C br W w S c = S c := by
  unfold gb1
  split
  · rfl
  · exact u2_c _ _ _ h
theorem gb2_c {C : Cf} {hot : Int64} {w : Nat} {S : St} {c : Nat} (h0 : ¬ c = 0) (h1 : ¬ c = 1) (h3 : ¬ c = 3) : gb2 C hot w S c = S c := by
  unfold gb2
  split
  · rfl
  · unfold takeS
    rw [u2_c _ _ _ h3, u2_c _ _ _ h1, u2_c _ _ _ h0]
theorem gbS_c {C : Cf} {N : Nat → Nat} {S : St} {br hot : Int64} {c : Nat} (h0 : ¬ c = 0) (h1 : ¬ c = 1) (h3 : ¬ c = 3) (h5 : ¬ c = 5) (h12 : ¬ c = 12) : gbS C N S br hot c = S c := by
  unfold gbS
  rw [itr_c (fun n T => gb2_c h0 h1 h3), u2_c _ _ _ h12, itr_c (fun n T => gb1_c h5)]
theorem m3_c {C : Cf} {N : Nat → Nat} {S : St} {c : Nat} (h0 : ¬ c = 0) (h1 : ¬ c = 1) (h2 : ¬ c = 2) (h4 : ¬ c = 4) (h5 : ¬ c = 5) (h6 : ¬ c = 6) (h7 : ¬ c = 7) (h8 : ¬ c = 8) (h11 : ¬ c = 11) (h12 : ¬ c = 12) (h13 : ¬ c = 13) : m3S C N S c = S c := by
  unfold m3S m2S
  rw [u2_c _ _ _ h12, itr_c (fun n T => dw_c h0 h1 h2 h4 h5 h7 h8 h11 h12), m1_c h5 h6 h13]
theorem m4_q' (C : Cf) (N : Nat → Nat) (S : St) : m4S C N S 14 0 = S 14 0 := by
  unfold m4S
  rw [gbS_c (by decide) (by decide) (by decide) (by decide) (by decide), m3_c (by decide) (by decide) (by decide) (by decide) (by decide) (by decide) (by decide) (by decide) (by decide) (by decide) (by decide)]
theorem deg_5 {S : St} {w b : Nat} {x : Int64} : deg (u2 S 5 w x) b = deg S b := by
  unfold deg
  rw [u2_c _ _ _ (by decide), u2_c _ _ _ (by decide)]
theorem gone_5 {S : St} {w b : Nat} {x y : Int64} : gone (u2 S 5 w x) b y = gone S b y := by
  unfold gone
  rw [u2_c _ _ _ (by decide), u2_c _ _ _ (by decide)]
theorem give_5 {S : St} {w b : Nat} {x y : Int64} : giveS (u2 S 5 w x) b y = u2 (giveS S b y) 5 w x := by
  unfold giveS
  rw [deg_5, gone_5, u2_c _ _ _ (by decide), u2_c _ _ _ (by decide), u2_c _ _ _ (by decide), u2_sort _ _ _ _ _ (show 1 < 5 by decide), u2_sort _ _ _ _ _ (show 2 < 5 by decide), u2_sort _ _ _ _ _ (show 0 < 5 by decide)]
theorem find_5 {T : St} {w : Nat} {x g : Int64} : findS (u2 T 5 w x) w g = u2 (fndM T w g) 5 w x := by
  unfold findS fndM
  rw [u2_c _ _ _ (show ¬ 7 = 5 by decide), u2_c _ _ _ (show ¬ 8 = 5 by decide), u2_c _ _ _ (show ¬ 13 = 5 by decide), u2_sort _ _ _ _ _ (show 5 < 8 by decide), u2_sort _ _ _ _ _ (show 5 < 7 by decide)]
  by_cases h : g ≤ 0
  · rw [if_pos h, if_pos h, u2_eqv (c := 8)]
    rw [u2_c _ _ _ (by decide), u2_c _ _ _ (by decide)]
  · rw [if_neg h, if_neg h]
    by_cases h2 : ¬ T 8 w = -1
    · rw [if_pos h2, if_pos h2, u2_eqv (c := 8)]
      rw [u2_c _ _ _ (by decide), u2_c _ _ _ (by decide)]
    · rw [if_neg h2, if_neg h2]
theorem dr1_m {C : Cf} {S : St} {w : Nat} : dr1 C S w = u2 (dM1 S (plN C w) w (drW C S w)) 5 w (drW C S w) := by
  unfold dr1 dM1
  rw [give_5, gone_5, find_5]
theorem stm_m (x hot : Int64) : (if hot ≤ 60 then 0 else stm x hot * (hot - 60) / 10) = stm x hot * (if 0 < hot - 60 then hot - 60 else 0) / 10 := by
  have h60 : (60 : Int64).toInt = 60 := rfl
  have hz : (0 : Int64).toInt = 0 := rfl
  by_cases h : hot ≤ 60
  · have h1 : stm x hot = 0 := by
      unfold stm
      rw [z_le] at h
      exact if_pos (by rw [z_le]; have : (100 : Int64).toInt = 100 := rfl; omega)
    rw [if_pos h, h1, Int64.zero_mul]
    rfl
  · have hr := Int64.toInt_lt hot
    have h2 : 0 < hot - 60 := by
      rw [z_le] at h
      rw [z_lt, z_sub (by omega) (by omega)]
      omega
    rw [if_neg h, if_pos h2]
theorem dr2_m {C : Cf} {S : St} {w : Nat} {hot : Int64} : dM2 S (plN C w) w (drW C S w) hot = dr2 C S w (drW C S w) hot := by
  unfold dM2 dr2
  rw [stm_m, u2_sort _ _ _ _ _ (show 5 < 12 by decide), u2_sort _ _ _ _ _ (show 5 < 12 by decide), u2_sort _ _ _ _ _ (show 5 < 12 by decide), dr1_m, u2_c _ _ _ (show ¬ 12 = 5 by decide)]
theorem min_m (v : Int64) : (if v < 100 then v else 100) = if 100 < v then 100 else v := by
  by_cases h : v < 100
  · rw [if_pos h, if_neg (fun z => by rw [z_lt] at h z; omega)]
  · rw [if_neg h]
    by_cases h2 : 100 < v
    · rw [if_pos h2]
    · rw [if_neg h2]
      rw [z_lt] at h h2
      rw [z_eq]
      omega
theorem dr3_m {C : Cf} {S : St} {w : Nat} {hot : Int64} : dM3 S (plN C w) w (drW C S w) hot = dr3 C S w (drW C S w) hot := by
  unfold dM3 dr3
  rw [dr2_m, min_m]
  rfl
theorem chg_m {C : Cf} {b w k : Nat} {x : Int64} {S : St} (hb : b < 12) (hs : spN C k < 12) : chgM C b w x k S = chgS C b w x k S := by
  unfold chgM chgS
  rw [near_m C hb hs]
  by_cases h : nearS C k b = false
  · rw [if_pos h, if_pos h, Int64.add_zero, u2_self]
  · rw [if_neg h, if_neg h]
theorem draw_m' {C : Cf} {N : Nat → Nat} {S : St} {w : Nat} (hC : Cok C N) (hb : plN C w < 12) : itr (chgM C (plN C w) w (drW C S w)) (dM3 S (plN C w) w (drW C S w) (deg S (plN C w))) (N 2) = drawS C N S w := by
  unfold drawS
  rw [dr3_m]
  exact itr_congr _ _ (fun i hi T => chg_m hb (hC.sp hi).2)
theorem clr_12 (k : Nat) (T : St) (y : Int64) : ∀ n, clrS k (u2 T 12 3 y) n = u2 (clrS k T n) 12 3 y
  | 0 => rfl
  | n + 1 => by
    show u2 (clrS k (u2 T 12 3 y) n) 11 _ 0 = u2 (u2 (clrS k T n) 11 _ 0) 12 3 y
    rw [clr_12 k T y n, u2_sort _ _ _ _ _ (by decide)]
theorem fe_m' (C : Cf) (S : St) (k : Nat) : clrM k (feG C S k) (feM S (spN C k) k (feG C S k)) = feS C k S := by
  unfold feS
  rw [note_c (by decide) (by decide) (by decide)]
  unfold clrM feM noteS
  by_cases h : feG C S k ≤ 0
  · rw [if_pos h, if_pos h, if_pos h, u2_sort _ _ _ _ _ (show 10 < 12 by decide)]
  · rw [if_neg h, if_neg h, if_neg h, u2_sort _ _ _ _ _ (show 10 < 12 by decide), clr_12]
theorem rt_if {α : Type} {C : Cf} {S : St} {w : Nat} (h : S 6 w = 0 ∨ S 6 w = 1) (x y : α) : (if C 3 w = 0 then x else if ¬ S 6 w = 0 then x else y) = if ret_ C S w = false then x else y := by
  unfold ret_
  by_cases h1 : C 3 w = 0
  · rw [if_pos h1, if_pos (c := C 3 w = 0) h1]
    rfl
  · rw [if_neg h1, if_neg (c := C 3 w = 0) h1]
    rcases h with h | h <;> rw [h] <;> rfl
theorem ret_congr {C : Cf} {S T : St} {w : Nat} (h : T 6 = S 6) : ret_ C T w = ret_ C S w := by
  unfold ret_
  rw [h]
theorem partV_congr {C : Cf} {S T : St} {br W : Int64} {w : Nat} (h : T 3 = S 3) : partV C T br w W = partV C S br w W := by
  unfold partV lig
  rw [h]
def r5 (S : St) (f : Nat → Int64) : St := fun c => if c = 5 then f else S c
theorem r5_c {S : St} {f : Nat → Int64} {c : Nat} (h : ¬ c = 5) : r5 S f c = S c := if_neg h
theorem r5_5 {S : St} {f : Nat → Int64} : r5 S f 5 = f := rfl
theorem r5_u {S : St} {f : Nat → Int64} {c i : Nat} {v : Int64} (h : ¬ c = 5) : u2 (r5 S f) c i v = r5 (u2 S c i v) f := by
  funext a j
  rw [u2_ap]
  by_cases h5 : a = 5
  · subst h5
    rw [if_neg (fun z => h z.1.symm), r5_5, r5_5]
  · rw [r5_c h5, r5_c h5, u2_ap]
theorem r5_u5 {S : St} {f : Nat → Int64} {i : Nat} {v : Int64} : r5 (u2 S 5 i v) f = r5 S f := by
  funext a
  by_cases h5 : a = 5
  · subst h5
    rfl
  · rw [r5_c h5, r5_c h5, u2_c _ _ _ h5]
theorem r5_eq {S : St} {f : Nat → Int64} (h : S 5 = f) : r5 S f = S := by
  funext a
  by_cases h5 : a = 5
  · subst h5
    exact h.symm
  · exact r5_c h5
theorem ptB_m {C : Cf} {S : St} {br W : Int64} {w : Nat} (h : S 6 w = 0 ∨ S 6 w = 1) : ptB C S br W w = if ret_ C S w = false then 0 else partV C S br w W := by
  rw [← rt_if h]
  unfold ptB ptA partV
  by_cases h1 : C 3 w = 0
  · rw [if_pos h1, if_pos h1, if_pos h1]
  · rw [if_neg h1, if_neg h1, if_neg h1]
    by_cases h2 : ¬ S 6 w = 0
    · rw [if_pos h2, if_pos h2]
      split <;> rfl
    · rw [if_neg h2, if_neg h2]
theorem gb1_5 (C : Cf) (br W : Int64) (T : St) : ∀ n j, itr (gb1 C br W) T n 5 j = if j < n ∧ ret_ C T j = true then partV C T br j W else T 5 j
  | 0, j => (if_neg (fun z => Nat.not_lt_zero _ z.1)).symm
  | n + 1, j => by
    have ih := gb1_5 C br W T n j
    have e6 : itr (gb1 C br W) T n 6 = T 6 := itr_c (fun n T => gb1_c (by decide)) T n
    have e3 : itr (gb1 C br W) T n 3 = T 3 := itr_c (fun n T => gb1_c (by decide)) T n
    show gb1 C br W n (itr (gb1 C br W) T n) 5 j = _
    have e : gb1 C br W n (itr (gb1 C br W) T n) = if ret_ C T n = false then itr (gb1 C br W) T n else u2 (itr (gb1 C br W) T n) 5 n (partV C T br n W) := by
      show (if ret_ C (itr (gb1 C br W) T n) n = false then _ else _) = _
      rw [ret_congr e6, partV_congr e3]
    rw [e]
    by_cases hr : ret_ C T n = false
    · rw [if_pos hr, ih]
      by_cases hj : j = n
      · subst hj
        rw [if_neg (fun z => Nat.lt_irrefl _ z.1), if_neg (fun z => by rw [hr] at z; exact absurd z.2 (by decide))]
      · by_cases hc : j < n ∧ ret_ C T j = true
        · rw [if_pos hc, if_pos ⟨by omega, hc.2⟩]
        · rw [if_neg hc, if_neg (fun z => hc ⟨by omega, z.2⟩)]
    · rw [if_neg hr, u2_ap]
      by_cases hj : j = n
      · subst hj
        rw [if_pos ⟨rfl, rfl⟩, if_pos ⟨Nat.lt_succ_self _, by simpa using hr⟩]
      · rw [if_neg (fun z => hj z.2), ih]
        by_cases hc : j < n ∧ ret_ C T j = true
        · rw [if_pos hc, if_pos ⟨by omega, hc.2⟩]
        · rw [if_neg hc, if_neg (fun z => hc ⟨by omega, z.2⟩)]
theorem ptP_at (C : Cf) (S : St) (br W : Int64) (P : Nat → Int64) : ∀ n j, j < n → itr (ptP C S br W) P n j = ptB C S br W j
  | 0, j, h => absurd h (by omega)
  | n + 1, j, h => by
    show vp_updL _ n _ j = _
    by_cases hj : j = n
    · subst hj
      exact if_pos rfl
    · have : vp_updL (vp_updL (itr (ptP C S br W) P n) n (ptA C S br W n)) n (ptB C S br W n) j = itr (ptP C S br W) P n j := (if_neg hj).trans (if_neg hj)
      rw [this]
      exact ptP_at C S br W P n j (by omega)
theorem rt_go {C : Cf} {T S0 : St} {P f : Nat → Int64} {br hot W : Int64} {n0 : Nat} (hB : ∀ w, w < n0 → T 6 w = 0 ∨ T 6 w = 1) (hM : ∀ w, w < n0 → ¬ C 3 w = 0 → T 5 w = 0) (hf : ∀ j, f j = if j < n0 ∧ ret_ C T j = true then partV C T br j W else T 5 j) (hP : ∀ w, w < n0 → P w = ptB C T br W w) (h6 : S0 6 = T 6) (h5 : S0 5 = T 5) : ∀ n, n ≤ n0 → itr (gb2 C hot) (r5 S0 f) n = r5 (itr (gbM C P hot) S0 n) f ∧ (∀ j, itr (gbM C P hot) S0 n 5 j = if j < n then f j else T 5 j)
  | 0, _ => ⟨rfl, fun j => by rw [if_neg (Nat.not_lt_zero _)]; exact congrFun h5 j⟩
  | n + 1, hn => by
    obtain ⟨ih1, ih2⟩ := rt_go hB hM hf hP h6 h5 n (by omega)
    have hR6 : ret_ C (r5 (itr (gbM C P hot) S0 n) f) n = ret_ C T n := by
      rw [← ih1]
      refine ret_congr ?_
      rw [itr_c (fun n T => gb2_c (by decide) (by decide) (by decide)), r5_c (by decide), h6]
    have hPn := hP n (by omega)
    rw [ptB_m (hB n (by omega))] at hPn
    have hfn := hf n
    have e1 : itr (gb2 C hot) (r5 S0 f) (n + 1) = gb2 C hot n (r5 (itr (gbM C P hot) S0 n) f) := by rw [← ih1]; rfl
    have e2 : itr (gbM C P hot) S0 (n + 1) = gbM C P hot n (itr (gbM C P hot) S0 n) := rfl
    rw [e1, e2]
    generalize itr (gbM C P hot) S0 n = R at ih2 hR6
    have row5 : ∀ v, v = f n → ∀ j, u2 R 5 n v 5 j = if j < n + 1 then f j else T 5 j := by
      intro v hv j
      rw [u2_ap]
      by_cases hj : j = n
      · subst hj
        rw [if_pos ⟨rfl, rfl⟩, if_pos (Nat.lt_succ_self _), hv]
      · rw [if_neg (fun z => hj z.2), ih2]
        by_cases hc : j < n
        · rw [if_pos hc, if_pos (by omega)]
        · rw [if_neg hc, if_neg (by omega)]
    unfold gb2 gbM
    rw [hR6]
    by_cases h1 : C 3 n = 0
    · have hr : ret_ C T n = false := by unfold ret_; exact if_pos h1
      rw [if_pos hr, if_pos h1]
      refine ⟨rfl, fun j => ?_⟩
      rw [hr, if_neg (fun z => by exact absurd z.2 (by decide))] at hfn
      rw [ih2]
      by_cases hj : j = n
      · subst hj
        rw [if_neg (Nat.lt_irrefl _), if_pos (Nat.lt_succ_self _), hfn]
      · by_cases hc : j < n
        · rw [if_pos hc, if_pos (by omega)]
        · rw [if_neg hc, if_neg (by omega)]
    · rw [if_neg h1]
      have hg5 : gc4 (plN C n) (P n) (gc3 (plN C n) (P n * hot) (gc2 (plN C n) (P n) (gc1 P n R))) 5 = u2 R 5 n (P n) 5 := by
        unfold gc4 gc3 gc2 gc1
        rw [u2_c _ _ _ (by decide), u2_c _ _ _ (by decide), u2_c _ _ _ (by decide)]
      by_cases hr : ret_ C T n = false
      · rw [if_pos hr]
        rw [hr, if_neg (fun z => by exact absurd z.2 (by decide)), hM n (by omega) h1] at hfn
        rw [if_pos hr] at hPn
        refine ⟨?_, fun j => ?_⟩
        · rw [hPn]
          unfold gc4 gc3 gc2 gc1
          rw [Int64.zero_mul, Int64.add_zero, u2_self, Int64.add_zero, u2_self, Int64.add_zero, u2_self, r5_u5]
        · rw [hg5]
          exact row5 _ (by rw [hPn, hfn]) j
      · have hr2 : ret_ C T n = true := by simpa using hr
        rw [if_neg hr]
        rw [if_pos ⟨by omega, hr2⟩] at hfn
        rw [if_neg hr] at hPn
        have hx : r5 R f 5 n = P n := by rw [r5_5, hfn, hPn]
        refine ⟨?_, fun j => ?_⟩
        · rw [hx]
          unfold takeS gc4 gc3 gc2 gc1
          rw [r5_c (by decide), r5_c (by decide), r5_c (by decide), r5_u (by decide), r5_u (by decide), r5_u (by decide)]
          rw [u2_c _ _ _ (show ¬ 3 = 1 by decide), u2_c _ _ _ (show ¬ 3 = 0 by decide), u2_c _ _ _ (show ¬ 3 = 5 by decide), u2_c _ _ _ (show ¬ 1 = 0 by decide), u2_c _ _ _ (show ¬ 1 = 5 by decide), u2_c _ _ _ (show ¬ 0 = 5 by decide)]
          rw [u2_sort _ _ _ _ _ (show 0 < 5 by decide), u2_sort _ _ _ _ _ (show 1 < 5 by decide), u2_sort _ _ _ _ _ (show 3 < 5 by decide), r5_u5]
        · rw [hg5]
          exact row5 _ (by rw [hPn, hfn]) j
theorem draw_5 {C : Cf} {N : Nat → Nat} {S : St} {w j : Nat} (h : ¬ j = w) : drawS C N S w 5 j = S 5 j := by
  unfold drawS
  rw [itr_c (fun n T => chgS_c (by decide)), dr3_c (by decide) (by decide)]
  unfold dr1
  rw [findS_oth _ _ _ (by decide) (by decide), giveS_c (by decide) (by decide) (by decide), u2_ne _ _ _ h]
theorem dw_5 (C : Cf) (N : Nat → Nat) (S : St) (j : Nat) (h : ¬ C 3 j = 0) : ∀ n, itr (dwS C N) S n 5 j = S 5 j
  | 0 => rfl
  | n + 1 => by
    show dwS C N n (itr (dwS C N) S n) 5 j = _
    rw [← dw_5 C N S j h n]
    generalize itr (dwS C N) S n = T
    unfold dwS
    by_cases hd : drw C T n = false
    · rw [if_pos hd]
    · rw [if_neg hd]
      refine draw_5 (fun e => hd ?_)
      subst e
      unfold drw
      exact if_pos h
theorem sh_5 (C : Cf) (N : Nat → Nat) (S : St) : ∀ n w, w < n → itr (shW C N) S n 5 w = 0
  | 0, w, h => absurd h (by omega)
  | n + 1, w, h => by
    show shW C N n (itr (shW C N) S n) 5 w = 0
    unfold shW
    rw [u2_c _ _ _ (by decide), u2_ap]
    by_cases hw : w = n
    · rw [if_pos ⟨rfl, hw⟩]
    · rw [if_neg (fun z => hw z.2)]
      exact sh_5 C N S n w (by omega)
theorem rt_m' (C : Cf) (N : Nat → Nat) (S : St) (P : Nat → Int64) (hC : Cok C N) (hB : Bok N S) : rtS C N (m3S C N S) P (mBr C N S) (mSel C N S).1 = m4S C N S := by
  have hB6 : ∀ w, w < N 0 → m3S C N S 6 w = 0 ∨ m3S C N S 6 w = 1 := by
    intro w hw
    have := d6_ok' C N S hB (N 0) (Nat.le_refl _) w hw
    unfold m3S m2S
    rw [u2_c _ _ _ (by decide)]
    exact this
  have hM : ∀ w, w < N 0 → ¬ C 3 w = 0 → m3S C N S 5 w = 0 := by
    intro w hw h
    unfold m3S m2S
    rw [u2_c _ _ _ (by decide), dw_5 C N _ w h]
    exact sh_5 C N _ (N 0) w hw
  unfold m4S
  generalize m3S C N S = T at hB6 hM
  generalize mBr C N S = br
  generalize (mSel C N S).1 = hot
  have hw : wgM C T (N 0) = wgt C T (N 0) := by
    unfold wgM wgt
    refine itr_congr _ _ (fun i hi x => ?_)
    show x + (if C 3 i = 0 then 0 else if ¬ T 6 i = 0 then 0 else (C 4 i).toInt64) = _
    rw [rt_if (hB6 i hi)]
    split
    · exact Int64.add_zero _
    · rfl
  unfold rtS rtP gbS
  rw [hw]
  generalize wgt C T (N 0) = W
  have hl : lft C br W T (N 0) = lfM C T br W (N 0) := by
    unfold lft lfM
    refine itr_congr _ _ (fun i hi x => ?_)
    have e6 : itr (gb1 C br W) T i 6 = T 6 := itr_c (fun n T => gb1_c (by decide)) T i
    have e3 : itr (gb1 C br W) T i 3 = T 3 := itr_c (fun n T => gb1_c (by decide)) T i
    rw [ret_congr e6, partV_congr e3, ptB_m (hB6 i hi)]
    split
    · exact (Int64.sub_zero _).symm
    · rfl
  have hU : itr (gb1 C br W) T (N 0) = r5 T (itr (gb1 C br W) T (N 0) 5) := by
    funext a
    by_cases h5 : a = 5
    · subst h5
      rfl
    · rw [r5_c h5]
      exact itr_c (fun n T => gb1_c h5) T (N 0)
  have hf := gb1_5 C br W T (N 0)
  rw [hU, r5_c (by decide), r5_u (by decide), hl]
  generalize itr (gb1 C br W) T (N 0) 5 = f at hf
  have hP := ptP_at C T br W P (N 0)
  generalize itr (ptP C T br W) P (N 0) = P2 at hP
  have hg := rt_go (hot := hot) (S0 := u2 T 12 2 (T 12 2 + lfM C T br W (N 0))) hB6 hM hf hP (u2_c _ _ _ (by decide)) (u2_c _ _ _ (by decide)) (N 0) (Nat.le_refl _)
  rw [hg.1, r5_eq]
  funext j
  rw [hg.2]
  by_cases hj : j < N 0
  · rw [if_pos hj]
  · rw [if_neg hj, hf, if_neg (fun z => hj z.1)]
theorem stm_ok {x hot : Int64} (h0 : 0 ≤ x.toInt) (h1 : x.toInt ≤ 1000) : 0 ≤ (stm x hot).toInt ∧ (stm x hot).toInt ≤ x.toInt := by
  have hz : (0 : Int64).toInt = 0 := rfl
  have h100 : (100 : Int64).toInt = 100 := rfl
  have h200 : (200 : Int64).toInt = 200 := rfl
  unfold stm
  by_cases h : hot ≤ 100
  · rw [if_pos h]
    omega
  · rw [if_neg h]
    rw [z_le] at h
    have hr := Int64.toInt_lt hot
    have hs : (hot - 100).toInt = hot.toInt - 100 := by rw [z_sub (by omega) (by omega)]; rfl
    have ht : ∃ t : Int64, t = (if 200 < hot - 100 then 200 else hot - 100) ∧ 0 ≤ t.toInt ∧ t.toInt ≤ 200 := by
      refine ⟨_, rfl, ?_⟩
      by_cases hh : 200 < hot - 100
      · rw [if_pos hh]
        omega
      · rw [if_neg hh]
        rw [z_lt] at hh
        omega
    obtain ⟨t, et, t0, t1⟩ := ht
    rw [← et]
    have p0 := Int.mul_nonneg h0 t0
    have p1 := Int.mul_le_mul_of_nonneg_left t1 h0
    have hm : (x * t).toInt = x.toInt * t.toInt := z_mul (by omega) (by omega)
    have hd : (x * t / 400).toInt = (x * t).toInt / 400 := dv_ok (by omega) (by decide) (by decide)
    rw [hd, hm]
    omega
theorem brW_ok {C : Cf} {S : St} {w : Nat} (hm : muN C w ≤ 1000) (h0 : 0 ≤ (S 0 (plN C w)).toInt) : 0 ≤ (brW C S w).toInt ∧ (brW C S w).toInt ≤ 1000 := by
  have h1 := drW_ok hm h0
  have h2 := stm_ok (hot := deg S (plN C w)) h1.1 h1.2.2
  unfold brW
  rw [z_sub (by omega) (by omega)]
  omega
theorem brn_ok {C : Cf} {N : Nat → Nat} {S : St} {k : Int} (hC : Cok C N) (hW : Wk k S) (hk : k ≤ 1099511627776) (hE : Wel N S) : ∀ n, n ≤ N 0 → 0 ≤ (brn C N S n).toInt ∧ (brn C N S n).toInt ≤ 1000 * n
  | 0, _ => ⟨(by decide : 0 ≤ (0 : Int64).toInt), (by decide : (0 : Int64).toInt ≤ 1000 * ((0 : Nat) : Int))⟩
  | n + 1, hn => by
    have ih := brn_ok hC hW hk hE n (by omega)
    have hN := hC.n0
    rw [brn_s]
    split
    · omega
    · have hb := brW_ok (hC.mu (show n < N 0 from hn)).2 ((dw_ok' C N S k hC hW hk hE n (by omega)).1 _ (hC.pl (show n < N 0 from hn)).2).1
      rw [z_add (by omega) (by omega)]
      omega
theorem part_ok {C : Cf} {S : St} {br W : Int64} {w : Nat} (hm : C 4 w = nI (muN C w) ∧ muN C w ≤ 1000) (h0 : 0 ≤ br.toInt) (h1 : br.toInt ≤ 10000) : 0 ≤ (partV C S br w W).toInt ∧ (partV C S br w W).toInt ≤ 10000000 := by
  have hz : (0 : Int64).toInt = 0 := rfl
  have hm2 := hm.2
  have e1 : (C 4 w).toInt64 = lN (muN C w) := by
    rw [hm.1]
    exact nI_l (by omega)
  have hx : 0 ≤ (if W ≤ 0 then 0 else br * (C 4 w).toInt64 / W).toInt ∧ (if W ≤ 0 then 0 else br * (C 4 w).toInt64 / W).toInt ≤ 10000000 := by
    by_cases h : W ≤ 0
    · rw [if_pos h]
      omega
    · rw [if_neg h, e1]
      obtain ⟨n, hn, en⟩ := pk_lOf (x := br) (fun z => by rw [z_lt] at z; omega)
      obtain ⟨m, hm3, em⟩ := pk_lOf (x := W) (fun z => h (by rw [z_lt] at z; rw [z_le]; omega))
      have hn2 : n ≤ 10000 := by
        rw [en, pk_lT hn] at h1
        omega
      have hm0 : 0 < m := by
        rcases Nat.eq_zero_or_pos m with e | e
        · subst e
          subst em
          exact absurd (by decide) h
        · exact e
      have hp := Nat.mul_le_mul hn2 hm2
      have hq : n * muN C w / m ≤ n * muN C w := Nat.div_le_self _ _
      have hq2 : n * muN C w / m ≤ 10000000 := Nat.le_trans hq (by omega)
      rw [en, em, lN_mul, pk_lDiv (by omega) hm0 hm3]
      generalize n * muN C w / m = q at hq2
      rw [pk_lT (by omega)]
      omega
  unfold partV
  generalize (if W ≤ 0 then 0 else br * (C 4 w).toInt64 / W) = x at hx
  split
  · exact hx
  · have hd : (x / 2).toInt = x.toInt / 2 := dv_ok hx.1 (by decide) (by decide)
    rw [hd]
    omega
theorem gb2_0 {C : Cf} {hot : Int64} {w j : Nat} {S : St} : gb2 C hot w S 0 j = if ret_ C S w = true ∧ j = plN C w then S 0 (plN C w) + S 5 w else S 0 j := by
  unfold gb2 takeS
  by_cases h : ret_ C S w = false
  · rw [if_pos h, if_neg (fun z => by rw [h] at z; exact absurd z.1 (by decide))]
  · have h2 : ret_ C S w = true := by simpa using h
    rw [if_neg h, u2_c _ _ _ (by decide), u2_c _ _ _ (by decide), u2_ap]
    by_cases hj : j = plN C w
    · rw [if_pos ⟨rfl, hj⟩, if_pos ⟨h2, hj⟩]
    · rw [if_neg (fun z => hj z.2), if_neg (fun z => hj z.2)]
theorem gb_ok {C : Cf} {N : Nat → Nat} {V : St} {hot : Int64} {k : Int} (hC : Cok C N) (h0 : 0 ≤ k) (hk : k + 200000000 ≤ 1099511627776) (hW : Wk k V) (h5 : ∀ j, j < N 0 → ret_ C V j = true → 0 ≤ (V 5 j).toInt ∧ (V 5 j).toInt ≤ 10000000) : ∀ n, n ≤ N 0 → Wk (k + 10000000 * n) (itr (gb2 C hot) V n)
  | 0, _ => by
    show Wk (k + 10000000 * (0 : Nat)) V
    exact hW.mono (by omega)
  | n + 1, hn => by
    have ih := gb_ok (hot := hot) hC h0 hk hW h5 n (by omega)
    have hN := hC.n0
    have e5 : itr (gb2 C hot) V n 5 = V 5 := itr_c (fun n T => gb2_c (by decide) (by decide) (by decide)) V n
    have e6 : itr (gb2 C hot) V n 6 = V 6 := itr_c (fun n T => gb2_c (by decide) (by decide) (by decide)) V n
    have e : itr (gb2 C hot) V (n + 1) = gb2 C hot n (itr (gb2 C hot) V n) := rfl
    rw [e]
    intro b hb
    rw [gb2_0, ret_congr e6, e5]
    have hb1 := ih b hb
    by_cases hc : ret_ C V n = true ∧ b = plN C n
    · rw [if_pos hc]
      have hv := h5 n hn hc.1
      have hb2 := ih _ (hC.pl (show n < N 0 from hn)).2
      rw [z_add (by omega) (by omega)]
      omega
    · rw [if_neg hc]
      omega
theorem m4_ok' (C : Cf) (N : Nat → Nat) (S : St) (k : Int) (hC : Cok C N) (hW : Wk k S) (h0 : 0 ≤ k) (hk : k + 200000000 ≤ 1099511627776) (hE : Wel N S) (hm : (S 13 0).toInt ≤ 900) : Wk (k + 100000000) (m4S C N S) := by
  have h1 := m1_ok' C N S k hW hE hm
  have h2 := (dw_ok' C N _ k hC h1.1 (by omega) h1.2 (N 0) (Nat.le_refl _)).1
  have hN := hC.n0
  have hbr := brn_ok hC h1.1 (by omega) h1.2 (N 0) (Nat.le_refl _)
  have h3 : Wk k (m3S C N S) := h2.row (u2_c _ _ _ (by decide))
  have hbr2 : 0 ≤ (mBr C N S).toInt ∧ (mBr C N S).toInt ≤ 10000 := by
    unfold mBr
    omega
  unfold m4S
  generalize m3S C N S = T at h3
  generalize mBr C N S = br at hbr2
  unfold gbS
  generalize wgt C T (N 0) = W
  have h4 : Wk k (u2 (itr (gb1 C br W) T (N 0)) 12 2 (itr (gb1 C br W) T (N 0) 12 2 + lft C br W T (N 0))) := h3.row (by rw [u2_c _ _ _ (by decide)]; exact itr_c (fun n T => gb1_c (by decide)) T (N 0))
  refine (gb_ok hC h0 hk h4 (fun j hj hr => ?_) (N 0) (Nat.le_refl _)).mono (by omega)
  have e6 : (u2 (itr (gb1 C br W) T (N 0)) 12 2 (itr (gb1 C br W) T (N 0) 12 2 + lft C br W T (N 0))) 6 = T 6 := by
    rw [u2_c _ _ _ (by decide)]
    exact itr_c (fun n T => gb1_c (by decide)) T (N 0)
  rw [ret_congr e6] at hr
  rw [u2_c _ _ _ (by decide), gb1_5, if_pos ⟨hj, hr⟩]
  exact part_ok (hC.mu hj) hbr2.1 hbr2.2
def Xok (C : Cf) : Prop := ∀ b, b < 12 → (0 ≤ (C 0 b).toInt ∧ (C 0 b).toInt ≤ 100) ∧ (0 ≤ (C 1 b).toInt ∧ (C 1 b).toInt ≤ 100)
def Inv10 (k : Int) (Z S : St) (u : Nat → Nat) : Prop := ∀ j, j < 12 → 10 * (Z 0 j).toInt - (Z 0 j).toInt * (u j : Int) ≤ 10 * (S 0 j).toInt ∧ 10 * (S 0 j).toInt ≤ 10 * (Z 0 j).toInt + (k - (Z 0 j).toInt) * (u j : Int)
def ug (a b : Nat) (u : Nat → Nat) : Nat → Nat := fun j => if j = a ∨ j = b then u j + 1 else u j
theorem mulS (z : Int) (n : Nat) : z * ((n + 1 : Nat) : Int) = z * (n : Int) + z := by
  rw [Int.natCast_add, Int.mul_add]
  simp
theorem i10_rng {k : Int} {Z S : St} {u : Nat → Nat} (hI : Inv10 k Z S u) {j : Nat} (hj : j < 12) (hZ : 0 ≤ (Z 0 j).toInt ∧ (Z 0 j).toInt ≤ k) (hu : u j ≤ 10) : 0 ≤ (S 0 j).toInt ∧ (S 0 j).toInt ≤ k := by
  have h := hI j hj
  have p1 := Int.mul_le_mul_of_nonneg_left (show (u j : Int) ≤ 10 by omega) hZ.1
  have p2 := Int.mul_le_mul_of_nonneg_left (show (u j : Int) ≤ 10 by omega) (show 0 ≤ k - (Z 0 j).toInt by omega)
  omega
theorem i10_up {k : Int} {Z S : St} {u : Nat → Nat} (hI : Inv10 k Z S u) (hZ : ∀ j, j < 12 → 0 ≤ (Z 0 j).toInt ∧ (Z 0 j).toInt ≤ k) (a b : Nat) : Inv10 k Z S (ug a b u) := by
  intro j hj
  have h := hI j hj
  have hz := hZ j hj
  unfold ug
  by_cases hc : j = a ∨ j = b
  · rw [if_pos hc, mulS, mulS]
    omega
  · rw [if_neg hc]
    exact h
theorem flow_f {k : Int} {x y : Int64} {wd : Int32} (hx : 0 ≤ x.toInt ∧ x.toInt ≤ k) (hy : 0 ≤ y.toInt ∧ y.toInt ≤ k) (hk : k ≤ 1099511627776) (hw : 0 ≤ wd.toInt ∧ wd.toInt ≤ 100) (h : y.toInt ≤ x.toInt) : 0 ≤ ((x - y) * wd.toInt64 / 1000).toInt ∧ 10 * ((x - y) * wd.toInt64 / 1000).toInt ≤ x.toInt - y.toInt := by
  have hd : (x - y).toInt = x.toInt - y.toInt := z_sub (by omega) (by omega)
  have hw2 : wd.toInt64.toInt = wd.toInt := Int32.toInt_toInt64 _
  have p0 := Int.mul_nonneg (show 0 ≤ x.toInt - y.toInt by omega) hw.1
  have p1 := Int.mul_le_mul_of_nonneg_left hw.2 (show 0 ≤ x.toInt - y.toInt by omega)
  have hm : ((x - y) * wd.toInt64).toInt = (x.toInt - y.toInt) * wd.toInt := by
    rw [z_mul (by rw [hd, hw2]; omega) (by rw [hd, hw2]; omega), hd, hw2]
  have hq : ((x - y) * wd.toInt64 / 1000).toInt = ((x - y) * wd.toInt64).toInt / 1000 := dv_ok (by rw [hm]; exact p0) (by decide) (by decide)
  rw [hq, hm]
  omega
theorem flow_0 {S Z : St} {a b j : Nat} {wd : Int32} (hab : ¬ b = a) : flowS S Z a b wd 0 j = if j = b then S 0 b + (Z 0 a - Z 0 b) * wd.toInt64 / 1000 else if j = a then S 0 a - (Z 0 a - Z 0 b) * wd.toInt64 / 1000 else S 0 j := by
  unfold flowS takeS
  rw [u2_c _ _ _ (show ¬ 0 = 2 by decide), u2_c _ _ _ (show ¬ 0 = 1 by decide), u2_ap]
  rw [u2_c _ _ _ (show ¬ 0 = 2 by decide), u2_c _ _ _ (show ¬ 0 = 1 by decide), u2_ne _ _ _ hab]
  by_cases hj : j = b
  · rw [if_pos ⟨rfl, hj⟩, if_pos hj]
  · rw [if_neg (fun z => hj z.2), if_neg hj, u2_ap]
    by_cases hja : j = a
    · rw [if_pos ⟨rfl, hja⟩, if_pos hja]
    · rw [if_neg (fun z => hja z.2), if_neg hja]
theorem i10_fl {k : Int} {Z S : St} {u : Nat → Nat} {a b : Nat} {wd : Int32} (hI : Inv10 k Z S u) (hZ : ∀ j, j < 12 → 0 ≤ (Z 0 j).toInt ∧ (Z 0 j).toInt ≤ k) (hk : k ≤ 1099511627776) (ha : a < 12) (hb : b < 12) (hab : ¬ b = a) (hw : 0 ≤ wd.toInt ∧ wd.toInt ≤ 100) (hu : ∀ j, j < 12 → u j ≤ 4) (h : (Z 0 b).toInt ≤ (Z 0 a).toInt) : Inv10 k Z (flowS S Z a b wd) (ug a b u) := by
  have hf := flow_f (hZ a ha) (hZ b hb) hk hw h
  have ra := i10_rng hI ha (hZ a ha) (Nat.le_trans (hu a ha) (by decide))
  have rb := i10_rng hI hb (hZ b hb) (Nat.le_trans (hu b hb) (by decide))
  have za := hZ a ha
  have zb := hZ b hb
  have ia := hI a ha
  have ib := hI b hb
  intro j hj
  rw [flow_0 hab]
  unfold ug
  by_cases hjb : j = b
  · subst hjb
    rw [if_pos rfl, if_pos (Or.inr rfl), mulS, mulS, z_add (by omega) (by omega)]
    omega
  · rw [if_neg hjb]
    by_cases hja : j = a
    · subst hja
      rw [if_pos rfl, if_pos (Or.inl rfl), mulS, mulS, z_sub (by omega) (by omega)]
      omega
    · rw [if_neg hja, if_neg (by omega)]
      exact hI j hj
theorem ug_sym (a b : Nat) (u : Nat → Nat) : ug a b u = ug b a u := by
  funext j
  unfold ug
  by_cases h : j = a ∨ j = b
  · rw [if_pos h, if_pos h.symm]
  · rw [if_neg h, if_neg (fun z => h z.symm)]
theorem i10_fb {k : Int} {Z S : St} {u : Nat → Nat} {a b : Nat} {wd : Int32} (hI : Inv10 k Z S u) (hZ : ∀ j, j < 12 → 0 ≤ (Z 0 j).toInt ∧ (Z 0 j).toInt ≤ k) (hk : k ≤ 1099511627776) (ha : a < 12) (hb : b < 12) (hab : ¬ b = a) (hw : 0 ≤ wd.toInt ∧ wd.toInt ≤ 100) (hu : ∀ j, j < 12 → u j ≤ 4) : Inv10 k Z (fbS S Z a b wd) (ug a b u) := by
  unfold fbS
  by_cases h1 : Z 0 a ≤ Z 0 b
  · rw [if_pos h1]
    by_cases h2 : Z 0 b ≤ Z 0 a
    · rw [if_pos h2]
      exact i10_up hI hZ a b
    · rw [if_neg h2, ug_sym]
      rw [z_le] at h1
      exact i10_fl hI hZ hk hb ha (fun e => hab e.symm) hw hu h1
  · rw [if_neg h1]
    rw [z_le] at h1
    exact i10_fl hI hZ hk ha hb hab hw hu (by omega)
def cX (b : Nat) (u : Nat → Nat) : Nat → Nat := if 12 ≤ b + 1 then u else if nbr b (b + 1) = false then u else ug b (b + 1) u
def cU (b : Nat) (u : Nat → Nat) : Nat → Nat := if 12 ≤ b + 4 then cX b u else ug b (b + 4) (cX b u)
theorem cU_le : ∀ n, n < 13 → ∀ j, j < 12 → itr cU (fun _ => 0) n j ≤ 4 := by decide +kernel
theorem cX_le : ∀ n, n < 12 → ∀ j, j < 12 → cX n (itr cU (fun _ => 0) n) j ≤ 4 := by decide +kernel
theorem i10_go {C : Cf} {k : Int} {Z S : St} (hX : Xok C) (hZ : ∀ j, j < 12 → 0 ≤ (Z 0 j).toInt ∧ (Z 0 j).toInt ≤ k) (hk : k ≤ 1099511627776) (hI : Inv10 k Z S (fun _ => 0)) : ∀ n, n ≤ 12 → Inv10 k Z (itr (crS C Z) S n) (itr cU (fun _ => 0) n)
  | 0, _ => hI
  | n + 1, hn => by
    have ih := i10_go hX hZ hk hI n (by omega)
    have e1 : itr (crS C Z) S (n + 1) = crS C Z n (itr (crS C Z) S n) := rfl
    have e2 : itr cU (fun _ => 0) (n + 1) = cU n (itr cU (fun _ => 0) n) := rfl
    have l1 := cU_le n (by omega)
    have l2 := cX_le n (by omega)
    rw [e1, e2]
    generalize itr (crS C Z) S n = T at ih
    generalize itr cU (fun _ => 0) n = u at ih l1 l2
    have hx := hX n (by omega)
    have s1 : Inv10 k Z (if 12 ≤ n + 1 then T else if nbr n (n + 1) = false then T else fbS T Z n (n + 1) (C 0 n)) (cX n u) := by
      unfold cX
      by_cases h : 12 ≤ n + 1
      · rw [if_pos h, if_pos h]
        exact ih
      · rw [if_neg h, if_neg h]
        by_cases h2 : nbr n (n + 1) = false
        · rw [if_pos h2, if_pos h2]
          exact ih
        · rw [if_neg h2, if_neg h2]
          exact i10_fb ih hZ hk (by omega) (by omega) (by omega) hx.1 l1
    unfold crS cU
    by_cases h : 12 ≤ n + 4
    · rw [if_pos h, if_pos h]
      exact s1
    · rw [if_neg h, if_neg h]
      exact i10_fb s1 hZ hk (by omega) (by omega) (by omega) hx.2 l2
theorem crk_ok' (C : Cf) (S : St) (k : Int) (hX : Xok C) (hk : k ≤ 1099511627776) (hW : Wk k S) : Wk k (crk C S) := by
  unfold crk
  have hI : Inv10 k (fun c b => if c = 0 then S 0 b else if c = 1 then deg S b else S 2 b) S (fun _ => 0) := by
    intro j hj
    show 10 * (S 0 j).toInt - (S 0 j).toInt * ((0 : Nat) : Int) ≤ _ ∧ _ ≤ 10 * (S 0 j).toInt + (k - (S 0 j).toInt) * ((0 : Nat) : Int)
    simp
  have hg := i10_go hX (k := k) (Z := fun c b => if c = 0 then S 0 b else if c = 1 then deg S b else S 2 b) hW hk hI 12 (Nat.le_refl _)
  intro b hb
  exact i10_rng hg hb (hW b hb) (Nat.le_trans (cU_le 12 (by decide) b hb) (by decide))
def adj (fr t : Nat) (f g r : Int64) (c j : Nat) (v : Int64) : Int64 := if c < 3 then (if j = t then v + (if c = 0 then f else if c = 1 then g else r) else if j = fr then v - (if c = 0 then f else if c = 1 then g else r) else v) else v
theorem lk_adj {fr t : Nat} (h : ¬ t = fr) (f g r : Int64) (Y : St) (c j : Nat) : yAd 2 t r (ySb 2 fr r (yAd 1 t g (ySb 1 fr g (yAd 0 t f (ySb 0 fr f Y))))) c j = adj fr t f g r c j (Y c j) := by
  unfold adj yAd ySb
  have h' : ¬ fr = t := fun e => h e.symm
  by_cases h3 : c < 3
  · rw [if_pos h3]
    rcases (show c = 0 ∨ c = 1 ∨ c = 2 by omega) with rfl | rfl | rfl
    all_goals
      by_cases hj : j = t
      · subst hj
        simp [u2_ap, h, h']
      · by_cases hf : j = fr
        · subst hf
          simp [u2_ap, h, h']
        · simp [u2_ap, hj, hf]
  · rw [if_neg h3, u2_c _ _ _ (by omega), u2_c _ _ _ (by omega), u2_c _ _ _ (by omega), u2_c _ _ _ (by omega), u2_c _ _ _ (by omega), u2_c _ _ _ (by omega)]
theorem fl_adj {a b : Nat} (h : ¬ b = a) (T Z : St) (wd : Int32) (c j : Nat) : flowS T Z a b wd c j = adj a b ((Z 0 a - Z 0 b) * wd.toInt64 / 1000) ((Z 0 a - Z 0 b) * wd.toInt64 / 1000 * Z 1 a) (Z 2 a * ((Z 0 a - Z 0 b) * wd.toInt64 / 1000) / Z 0 a) c j (T c j) := by
  unfold flowS takeS
  generalize Z 2 a * ((Z 0 a - Z 0 b) * wd.toInt64 / 1000) / Z 0 a = r
  generalize (Z 0 a - Z 0 b) * wd.toInt64 / 1000 = f
  generalize f * Z 1 a = g
  have h' : ¬ a = b := fun e => h e.symm
  unfold adj
  by_cases h3 : c < 3
  · rw [if_pos h3]
    rcases (show c = 0 ∨ c = 1 ∨ c = 2 by omega) with rfl | rfl | rfl
    all_goals
      by_cases hj : j = b
      · subst hj
        simp [u2_ap, h, h']
      · by_cases hf : j = a
        · subst hf
          simp [u2_ap, h, h']
        · simp [u2_ap, hj, hf]
  · rw [if_neg h3, u2_c _ _ _ (by omega), u2_c _ _ _ (by omega), u2_c _ _ _ (by omega), u2_c _ _ _ (by omega), u2_c _ _ _ (by omega), u2_c _ _ _ (by omega)]
theorem adj_0 (fr t c j : Nat) (v : Int64) : adj fr t 0 0 0 c j v = v := by
  unfold adj
  simp
def zOf (S : St) : St := fun c b => if c = 0 then S 0 b else if c = 1 then deg S b else S 2 b
theorem lkR_m (S : St) (b : Nat) (f : Int64) : lkR S b f = S 2 b * f / S 0 b := by
  unfold lkR
  by_cases h : S 0 b = 0
  · rw [if_neg (fun z => z h), h]
    exact Int64.div_zero.symm
  · rw [if_pos h]
theorem fb_adj {a b : Nat} (h : ¬ b = a) (S T : St) (wd : Int32) (c j : Nat) : fbS T (zOf S) a b wd c j = adj (lkF S a b) (lkT S a b) (lkW S wd a b) (lkW S wd a b * deg S (lkF S a b)) (lkR S (lkF S a b) (lkW S wd a b)) c j (T c j) := by
  rw [lkR_m]
  by_cases h1 : S 0 a ≤ S 0 b
  · have eF : lkF S a b = b := if_pos h1
    have eT : lkT S a b = a := by unfold lkT; rw [eF]; exact if_pos h
    unfold lkW
    rw [eF, eT]
    by_cases h2 : S 0 b ≤ S 0 a
    · have e : fbS T (zOf S) a b wd = T := by
        unfold fbS
        exact (if_pos h1).trans (if_pos h2)
      have e2 : S 0 b = S 0 a := by
        rw [z_le] at h1 h2
        rw [z_eq]
        omega
      have e3 : (S 0 b - S 0 a) * wd.toInt64 / 1000 = 0 := by
        rw [e2, Int64.sub_self, Int64.zero_mul]
        rfl
      rw [e, e3, Int64.zero_mul, Int64.mul_zero, Int64.zero_div, adj_0]
    · have e : fbS T (zOf S) a b wd = flowS T (zOf S) b a wd := by
        unfold fbS
        exact (if_pos h1).trans (if_neg h2)
      rw [e, fl_adj (fun z => h z.symm)]
      rfl
  · have eF : lkF S a b = a := if_neg h1
    have eT : lkT S a b = b := by unfold lkT; rw [eF]; exact if_neg (fun z => z rfl)
    have e : fbS T (zOf S) a b wd = flowS T (zOf S) a b wd := by
      unfold fbS
      exact if_neg h1
    unfold lkW
    rw [eF, eT, e, fl_adj h]
    rfl
theorem lkT_ne {S : St} {a b : Nat} (h : ¬ b = a) : ¬ lkT S a b = lkF S a b := by
  unfold lkT
  by_cases hc : lkF S a b = a
  · rw [if_neg (fun z => z hc), hc]
    exact h
  · rw [if_pos hc]
    exact fun e => hc e.symm
theorem adj_add (fr t : Nat) (f g r : Int64) (c j : Nat) (s y : Int64) : adj fr t f g r c j (s + y) = s + adj fr t f g r c j y := by
  unfold adj
  by_cases h3 : c < 3
  · rw [if_pos h3, if_pos h3]
    by_cases hj : j = t
    · rw [if_pos hj, if_pos hj, Int64.add_assoc]
    · rw [if_neg hj, if_neg hj]
      by_cases hf : j = fr
      · rw [if_pos hf, if_pos hf, Int64.sub_eq_add_neg, Int64.sub_eq_add_neg, Int64.add_assoc]
      · rw [if_neg hf, if_neg hf]
  · rw [if_neg h3, if_neg h3]
theorem adj_id {fr t : Nat} {f g r : Int64} {c j : Nat} (v : Int64) (h : 3 ≤ c ∨ (¬ j = t ∧ ¬ j = fr)) : adj fr t f g r c j v = v := by
  unfold adj
  by_cases h3 : c < 3
  · rw [if_pos h3, if_neg (by omega), if_neg (by omega)]
  · rw [if_neg h3]
/-- the two ways of holding the flows -/
def Sm (S T Y : St) : Prop := ∀ c j, T c j = if c < 3 ∧ j < 12 then S c j + Y c j else S c j
theorem sm_edge {S T Y : St} {a b : Nat} {wd : Int32} (hS : Sm S T Y) (ha : a < 12) (hb : b < 12) (h : ¬ b = a) : Sm S (fbS T (zOf S) a b wd) (lkY S wd a b Y) := by
  intro c j
  rw [fb_adj h, hS]
  have hl : lkY S wd a b Y c j = adj (lkF S a b) (lkT S a b) (lkW S wd a b) (lkW S wd a b * deg S (lkF S a b)) (lkR S (lkF S a b) (lkW S wd a b)) c j (Y c j) := lk_adj (lkT_ne h) _ _ _ Y c j
  by_cases hc : c < 3 ∧ j < 12
  · rw [if_pos hc, if_pos hc, adj_add, hl]
  · rw [if_neg hc, if_neg hc]
    have h1 := lkF_lt (S := S) ha hb
    have h2 := lkT_lt (S := S) ha hb
    exact adj_id _ (by omega)
theorem nb_m : ∀ b, b < 12 → ((12 ≤ b + 1 ∨ nbr b (b + 1) = false) ↔ 3 ≤ b % 4) := by decide +kernel
theorem sm_go {C : Cf} {S Y0 : St} (h0 : Sm S S Y0) : ∀ n, n ≤ 12 → Sm S (itr (crS C (zOf S)) S n) (itr (ckM C S) Y0 n)
  | 0, _ => h0
  | n + 1, hn => by
    have ih := sm_go (C := C) h0 n (by omega)
    have e1 : itr (crS C (zOf S)) S (n + 1) = crS C (zOf S) n (itr (crS C (zOf S)) S n) := rfl
    have e2 : itr (ckM C S) Y0 (n + 1) = ckM C S n (itr (ckM C S) Y0 n) := rfl
    rw [e1, e2]
    generalize itr (crS C (zOf S)) S n = T at ih
    generalize itr (ckM C S) Y0 n = Y at ih
    have hnb := nb_m n (by omega)
    have s1 : Sm S (if 12 ≤ n + 1 then T else if nbr n (n + 1) = false then T else fbS T (zOf S) n (n + 1) (C 0 n)) (ckR C S n Y) := by
      unfold ckR
      by_cases h3 : 3 ≤ n % 4
      · rw [if_pos h3]
        rcases hnb.mpr h3 with h | h
        · rw [if_pos h]
          exact ih
        · by_cases hh : 12 ≤ n + 1
          · rw [if_pos hh]
            exact ih
          · rw [if_neg hh, if_pos h]
            exact ih
      · rw [if_neg h3, if_neg (fun z => h3 (hnb.mp (Or.inl z))), if_neg (fun z => h3 (hnb.mp (Or.inr z)))]
        exact sm_edge ih (by omega) (by omega) (by omega)
    unfold crS ckM
    by_cases h : 8 ≤ n
    · rw [if_pos h, if_pos (by omega)]
      exact s1
    · rw [if_neg h, if_neg (by omega)]
      exact sm_edge s1 (by omega) (by omega) (by omega)
theorem zrM_at (Y : St) (n c j : Nat) : zrM n Y c j = if c = 2 ∧ j = n then 0 else if c = 1 ∧ j = n then 0 else if c = 0 ∧ j = n then 0 else Y c j := by
  unfold zrM
  rw [u2_ap, u2_ap, u2_ap]
theorem adM_at (Y S : St) (n c j : Nat) : adM Y n S c j = if c = 2 ∧ j = n then S 2 n + Y 2 n else if c = 1 ∧ j = n then S 1 n + Y 1 n else if c = 0 ∧ j = n then S 0 n + Y 0 n else S c j := by
  unfold adM yAd
  rw [u2_c _ _ _ (show ¬ 2 = 1 by decide), u2_c _ _ _ (show ¬ 2 = 0 by decide), u2_c _ _ _ (show ¬ 1 = 0 by decide), u2_ap, u2_ap, u2_ap]
theorem zr_at (Y : St) : ∀ n c j, itr zrM Y n c j = if c < 3 ∧ j < n then 0 else Y c j
  | 0, c, j => (if_neg (by omega)).symm
  | n + 1, c, j => by
    show zrM n (itr zrM Y n) c j = _
    have ih := zr_at Y n c j
    rw [zrM_at, ih]
    by_cases h2 : c = 2 ∧ j = n
    · rw [if_pos h2, if_pos (by omega)]
    · rw [if_neg h2]
      by_cases h1 : c = 1 ∧ j = n
      · rw [if_pos h1, if_pos (by omega)]
      · rw [if_neg h1]
        by_cases h0 : c = 0 ∧ j = n
        · rw [if_pos h0, if_pos (by omega)]
        · rw [if_neg h0]
          by_cases hh : c < 3 ∧ j < n
          · rw [if_pos hh, if_pos (by omega)]
          · rw [if_neg hh, if_neg (by omega)]
theorem ad_at (Y S : St) : ∀ n c j, itr (adM Y) S n c j = if c < 3 ∧ j < n then S c j + Y c j else S c j
  | 0, c, j => (if_neg (by omega)).symm
  | n + 1, c, j => by
    show adM Y n (itr (adM Y) S n) c j = _
    have ih := ad_at Y S n
    rw [adM_at, ih, ih, ih, ih]
    by_cases hj : j = n
    · subst hj
      by_cases h3 : c < 3
      · rcases (show c = 0 ∨ c = 1 ∨ c = 2 by omega) with rfl | rfl | rfl <;> simp
      · rw [if_neg (by omega), if_neg (by omega), if_neg (by omega), if_neg (by omega), if_neg (by omega)]
    · rw [if_neg (fun z => hj z.2), if_neg (fun z => hj z.2), if_neg (fun z => hj z.2)]
      by_cases hh : c < 3 ∧ j < n
      · rw [if_pos hh, if_pos (by omega)]
      · rw [if_neg hh, if_neg (by omega)]
theorem crk_m' (C : Cf) (S Y : St) : crM C S Y = crk C S := by
  unfold crM crk
  have h0 : Sm S S (itr zrM Y 12) := by
    intro c j
    rw [zr_at]
    by_cases h : c < 3 ∧ j < 12
    · rw [if_pos h, if_pos h]
      exact (Int64.add_zero _).symm
    · rw [if_neg h]
  have h := sm_go (C := C) h0 12 (Nat.le_refl _)
  funext c j
  have e : itr (crS C (zOf S)) S 12 c j = _ := h c j
  rw [ad_at]
  exact e.symm
