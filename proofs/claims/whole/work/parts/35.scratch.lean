theorem z_lt (a b : Int64) : a < b ↔ a.toInt < b.toInt := Int64.lt_iff_toInt_lt
theorem z_le (a b : Int64) : a ≤ b ↔ a.toInt ≤ b.toInt := Int64.le_iff_toInt_le
theorem z_eq (a b : Int64) : a = b ↔ a.toInt = b.toInt := Int64.toInt_inj.symm
theorem z_add {x y : Int64} (h1 : -9223372036854775808 ≤ x.toInt + y.toInt) (h2 : x.toInt + y.toInt < 9223372036854775808) : (x + y).toInt = x.toInt + y.toInt := by
  rw [Int64.toInt_add]
  exact Int.bmod_eq_of_le (by omega) (by omega)
theorem z_sub {x y : Int64} (h1 : -9223372036854775808 ≤ x.toInt - y.toInt) (h2 : x.toInt - y.toInt < 9223372036854775808) : (x - y).toInt = x.toInt - y.toInt := by
  rw [Int64.toInt_sub]
  exact Int.bmod_eq_of_le (by omega) (by omega)
theorem z_mul {x y : Int64} (h1 : -9223372036854775808 ≤ x.toInt * y.toInt) (h2 : x.toInt * y.toInt < 9223372036854775808) : (x * y).toInt = x.toInt * y.toInt := by
  rw [Int64.toInt_mul]
  exact Int.bmod_eq_of_le (by omega) (by omega)
theorem wd_m' {C : Cf} {S : St} {w : Nat} (hm : C 4 w = nI (muN C w) ∧ muN C w ≤ 1000) (hc : S 4 w = lN (scN S w) ∧ scN S w ≤ 100) : (C 4 w).toInt64 * (100 - S 4 w) / 100 = wd C S w := by
  have h1 : (C 4 w).toInt64 = lN (muN C w) := by
    have := hm.2
    rw [hm.1]
    exact nI_l (by omega)
  have h2 := n_mul hm.2 (show 100 - scN S w ≤ 100 by omega)
  rw [h1, hc.1]
  show lN _ * (lN 100 - lN _) / lN 100 = lN _
  rw [lN_sub hc.2, lN_mul, pk_lDiv (by omega) (by decide) (by decide)]
theorem itr_c {f : Nat → St → St} {c : Nat} (h : ∀ n S, f n S c = S c) (S : St) : ∀ n, itr f S n c = S c
  | 0 => rfl
  | n + 1 => (h n _).trans (itr_c h S n)
theorem chgS_c {C : Cf} {b w k : Nat} {x : Int64} {S : St} {c : Nat} (h : ¬ c = 11) : chgS C b w x k S c = S c := by
  unfold chgS
  split
  · rfl
  · exact u2_c _ _ _ h
theorem giveS_c {S : St} {b : Nat} {x : Int64} {c : Nat} (h0 : ¬ c = 0) (h1 : ¬ c = 1) (h2 : ¬ c = 2) : giveS S b x c = S c := by
  unfold giveS
  rw [u2_c _ _ _ h0, u2_c _ _ _ h2, u2_c _ _ _ h1]
theorem giveS_0 {S : St} {b : Nat} {x : Int64} {j : Nat} : giveS S b x 0 j = if j = b then S 0 b - x else S 0 j := by
  unfold giveS
  rw [u2_ap]
  by_cases h : j = b
  · rw [if_pos ⟨rfl, h⟩, if_pos h]
  · rw [if_neg (fun z => h z.2), if_neg h, u2_c _ _ _ (by decide), u2_c _ _ _ (by decide)]
theorem growS_c {S : St} {w : Nat} {x : Int64} {c : Nat} (h : ¬ c = 4) : growS S w x c = S c := u2_c _ _ _ h
theorem dr2_c {C : Cf} {S : St} {w : Nat} {x hot : Int64} {c : Nat} (h : ¬ c = 12) : dr2 C S w x hot c = dr1 C S w c := by
  unfold dr2
  rw [u2_c _ _ _ h, u2_c _ _ _ h, u2_c _ _ _ h]
theorem dr3_c {C : Cf} {S : St} {w : Nat} {x hot : Int64} {c : Nat} (h : ¬ c = 12) (h4 : ¬ c = 4) : dr3 C S w x hot c = dr1 C S w c := by
  unfold dr3
  split
  · exact dr2_c h
  · split
    · exact dr2_c h
    · rw [growS_c h4]
      exact dr2_c h
theorem dv_ok {x : Int64} {c : Nat} (h : 0 ≤ x.toInt) (hc : 0 < c) (hc2 : c < 2 ^ 63) : (x / lN c).toInt = x.toInt / c := by
  obtain ⟨n, hn, rfl⟩ := pk_lOf (x := x) (fun z => by rw [z_lt] at z; have : (0 : Int64).toInt = 0 := rfl; omega)
  rw [pk_lDiv hn hc hc2, pk_lT hn, pk_lT (Nat.lt_of_le_of_lt (Nat.div_le_self _ _) hn)]
  rfl
theorem wd_ok {C : Cf} {S : St} {w : Nat} (hm : muN C w ≤ 1000) : 0 ≤ (wd C S w).toInt ∧ (wd C S w).toInt ≤ 1000 := by
  have h2 := Nat.mul_le_mul hm (show 100 - scN S w ≤ 100 by omega)
  unfold wd
  rw [lN_toInt (by omega)]
  omega
theorem drW_ok {C : Cf} {S : St} {w : Nat} (hm : muN C w ≤ 1000) (h0 : 0 ≤ (S 0 (plN C w)).toInt) : 0 ≤ (drW C S w).toInt ∧ (drW C S w).toInt ≤ (S 0 (plN C w)).toInt ∧ (drW C S w).toInt ≤ 1000 := by
  have h1 := wd_ok (S := S) hm
  have h2 : (S 0 (plN C w) / 10).toInt = (S 0 (plN C w)).toInt / 10 := dv_ok h0 (by decide) (by decide)
  unfold drW
  split
  · rename_i h
    rw [z_lt] at h
    omega
  · rename_i h
    rw [z_lt] at h
    omega
theorem sc_of {S : St} {w n : Nat} (h : S 4 w = lN n) (hn : n ≤ 100) : S 4 w = lN (scN S w) ∧ scN S w ≤ 100 := by
  have : scN S w = n := by
    unfold scN
    rw [h, lN_toInt (by omega)]
    rfl
  rw [this]
  exact ⟨h, hn⟩
theorem drawS_0 {C : Cf} {N : Nat → Nat} {S : St} {w j : Nat} : drawS C N S w 0 j = if j = plN C w then S 0 (plN C w) - drW C S w else S 0 j := by
  unfold drawS
  rw [itr_c (fun n T => chgS_c (by decide)), dr3_c (by decide) (by decide)]
  unfold dr1
  rw [findS_oth _ _ _ (by decide) (by decide), giveS_0]
  rfl
theorem drawS_13 {C : Cf} {N : Nat → Nat} {S : St} {w : Nat} {c : Nat} (h0 : ¬ c = 0) (h1 : ¬ c = 1) (h2 : ¬ c = 2) (h4 : ¬ c = 4) (h5 : ¬ c = 5) (h7 : ¬ c = 7) (h8 : ¬ c = 8) (h11 : ¬ c = 11) (h12 : ¬ c = 12) : drawS C N S w c = S c := by
  unfold drawS
  rw [itr_c (fun n T => chgS_c h11), dr3_c h12 h4]
  unfold dr1
  rw [findS_oth _ _ _ h7 h8, giveS_c h0 h1 h2, u2_c _ _ _ h5]
theorem drawS_8 {C : Cf} {N : Nat → Nat} {S : St} {w j : Nat} : drawS C N S w 8 j = S 8 j ∨ drawS C N S w 8 j = S 13 0 := by
  unfold drawS
  rw [itr_c (fun n T => chgS_c (by decide)), dr3_c (by decide) (by decide)]
  unfold dr1 findS
  split
  · left
    rw [u2_c _ _ _ (by decide), giveS_c (by decide) (by decide) (by decide), u2_c _ _ _ (by decide)]
  · split
    · left
      rw [u2_c _ _ _ (by decide), giveS_c (by decide) (by decide) (by decide), u2_c _ _ _ (by decide)]
    · rw [u2_ap]
      split
      · right
        rw [giveS_c (by decide) (by decide) (by decide), u2_c _ _ _ (by decide)]
      · left
        rw [u2_c _ _ _ (by decide), giveS_c (by decide) (by decide) (by decide), u2_c _ _ _ (by decide)]
theorem dr1_4 {C : Cf} {S : St} {w : Nat} : dr1 C S w 4 = S 4 := by
  unfold dr1
  rw [findS_oth _ _ _ (by decide) (by decide), giveS_c (by decide) (by decide) (by decide), u2_c _ _ _ (by decide)]
theorem drawS_4 {C : Cf} {N : Nat → Nat} {S : St} {w : Nat} : drawS C N S w 4 = S 4 ∨ (¬ drW C S w ≤ 0 ∧ drawS C N S w 4 = fun j => if j = w then (if 100 < S 4 w + 1 + drW C S w / 500 then 100 else S 4 w + 1 + drW C S w / 500) else S 4 j) := by
  unfold drawS
  rw [itr_c (fun n T => chgS_c (by decide))]
  unfold dr3
  split
  · left
    rw [dr2_c (by decide), dr1_4]
  · split
    · left
      rw [dr2_c (by decide), dr1_4]
    · right
      rename_i h
      refine ⟨h, ?_⟩
      funext j
      unfold growS
      rw [u2_ap, dr2_c (by decide), dr1_4]
      by_cases hj : j = w
      · rw [if_pos ⟨rfl, hj⟩, if_pos hj]
      · rw [if_neg (fun z => hj z.2), if_neg hj]
theorem dw1 (C : Cf) (N : Nat → Nat) (S : St) (k : Int) (hC : Cok C N) (hW : Wk k S) (hk : k ≤ 1099511627776) (hE : Wel N S) (w : Nat) (hw : w < N 0) : Wk k (dwS C N w S) ∧ Wel N (dwS C N w S) := by
  unfold dwS
  split
  · exact ⟨hW, hE⟩
  · have hb := (hC.pl hw).2
    have hd := drW_ok (S := S) (hC.mu hw).2 (hW _ hb).1
    refine ⟨fun b hb2 => ?_, fun w2 hw2 => ?_, fun w2 hw2 => ?_, ?_⟩
    · rw [drawS_0]
      have h1 := hW _ hb
      have h2 := hW _ hb2
      split
      · rw [z_sub (by omega) (by omega)]
        omega
      · exact h2
    · rcases drawS_4 (C := C) (N := N) (S := S) (w := w) with h | ⟨hp, h⟩
      · exact scok_c h (hE.1 w2 hw2)
      · by_cases hj : w2 = w
        · subst hj
          obtain ⟨x, hx, ex⟩ := pk_lOf (x := drW C S w2) (fun z => by rw [z_lt] at z; have : (0 : Int64).toInt = 0 := rfl; omega)
          have hx2 : x ≤ 1000 := by
            have := hd.2.2
            rw [ex, pk_lT hx] at this
            omega
          have hs := hE.1 w2 hw2
          have e2 : S 4 w2 + 1 + drW C S w2 / 500 = lN (scN S w2 + 1 + x / 500) := by
            rw [ex, hs.1]
            show lN _ + lN 1 + lN x / lN 500 = _
            rw [pk_lDiv hx (by decide) (by decide), lN_add, lN_add]
          have e3 : drawS C N S w2 4 w2 = (if 100 < S 4 w2 + 1 + drW C S w2 / 500 then 100 else S 4 w2 + 1 + drW C S w2 / 500) := by
            rw [h]
            exact if_pos rfl
          have h3 := hs.2
          have hl : (100 : Int64) < lN (scN S w2 + 1 + x / 500) ↔ 100 < scN S w2 + 1 + x / 500 := lN_lt (a := 100) (by decide) (by omega)
          rw [e2] at e3
          by_cases hh : 100 < scN S w2 + 1 + x / 500
          · rw [if_pos (hl.mpr hh)] at e3
            exact sc_of (n := 100) e3 (by decide)
          · rw [if_neg (fun z => hh (hl.mp z))] at e3
            exact sc_of e3 (by omega)
        · have e3 : drawS C N S w 4 w2 = S 4 w2 := by
            rw [h]
            exact if_neg hj
          have hs := hE.1 w2 hw2
          exact sc_of (e3.trans hs.1) hs.2
    · rcases drawS_8 (C := C) (N := N) (S := S) (w := w) (j := w2) with h | h
      · rw [h]
        exact hE.2.1 w2 hw2
      · rw [h]
        have := hE.2.2
        omega
    · rw [drawS_13 (by decide) (by decide) (by decide) (by decide) (by decide) (by decide) (by decide) (by decide) (by decide)]
      exact hE.2.2
theorem dw_ok' (C : Cf) (N : Nat → Nat) (S : St) (k : Int) (hC : Cok C N) (hW : Wk k S) (hk : k ≤ 1099511627776) (hE : Wel N S) : ∀ n, n ≤ N 0 → Wk k (itr (dwS C N) S n) ∧ Wel N (itr (dwS C N) S n)
  | 0, _ => ⟨hW, hE⟩
  | n + 1, h => dw1 C N _ k hC (dw_ok' C N S k hC hW hk hE n (by omega)).1 hk (dw_ok' C N S k hC hW hk hE n (by omega)).2 n h
