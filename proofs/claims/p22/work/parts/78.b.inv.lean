/-! what holds all through the law's script -/
theorem drawS_5w {C : Cf} {N : Nat → Nat} {S : St} {w : Nat} : drawS C N S w 5 w = drW C S w := by
  unfold drawS
  rw [itr_c (fun n T => chgS_c (by decide)), dr3_c (by decide) (by decide)]
  unfold dr1
  rw [findS_oth _ _ _ (by decide) (by decide), giveS_c (by decide) (by decide) (by decide), u2_same]
theorem dws_5 {C : Cf} {N : Nat → Nat} {S : St} {k : Int} (hC : Cok C N) (hW : Wk k S) (hk : k ≤ 1099511627776) (hE : Wel N S) (h5 : ∀ w, w < N 0 → 0 ≤ (S 5 w).toInt ∧ (S 5 w).toInt ≤ 1000) : ∀ n, n ≤ N 0 → ∀ w, w < N 0 → 0 ≤ (itr (dwS C N) S n 5 w).toInt ∧ (itr (dwS C N) S n 5 w).toInt ≤ 1000
  | 0, _ => h5
  | n + 1, hn => by
    intro w hw
    have ih := dws_5 hC hW hk hE h5 n (by omega) w hw
    have hD := dw_ok C N S k hC hW hk hE n (by omega)
    show 0 ≤ (dwS C N n (itr (dwS C N) S n) 5 w).toInt ∧ (dwS C N n (itr (dwS C N) S n) 5 w).toInt ≤ 1000
    obtain ⟨T, hT⟩ : ∃ T, T = itr (dwS C N) S n := ⟨_, rfl⟩
    rw [← hT] at ih hD ⊢
    unfold dwS
    split
    · exact ih
    · by_cases hj : w = n
      · subst hj
        rw [drawS_5w]
        have := drW_ok (C := C) (S := T) (w := w) (hC.mu hw).2 (hD.1 _ (hC.pl hw).2).1
        omega
      · rw [drawS_5 hj]
        exact ih
theorem m4_5 {C : Cf} {N : Nat → Nat} {S : St} {k : Int} (hC : Cok C N) (hW : Wk k S) (hk : k ≤ 1099511627776) (hE : Wel N S) (hm : (S 13 0).toInt ≤ 900) : ∀ w, w < N 0 → 0 ≤ (m4S C N S 5 w).toInt ∧ (m4S C N S 5 w).toInt ≤ 10000000 := by
  intro w hw
  have h1 := m1_ok C N S k hW hE hm
  have hz : (0 : Int64).toInt = 0 := rfl
  have h2 := dws_5 hC h1.1 hk h1.2 (fun j hj => by
    have e : m1S C N S 5 j = 0 := sh_5 (u2 S 13 0 (S 13 0 + 1)) (N 0) j hj
    rw [e, hz]
    omega) (N 0) (Nat.le_refl _) w hw
  have h0 := hC.n0
  have hb := brn_ok hC h1.1 hk h1.2 (N 0) (Nat.le_refl _)
  have e3 : m3S C N S 5 = m2S C N S 5 := u2_c _ _ _ (by decide)
  unfold m4S gbS
  rw [itr_c (fun _ _ => gb2_c (by decide) (by decide) (by decide)), u2_c _ _ _ (by decide), gb1_5]
  split
  · exact part_ok (hC.mu hw) hb.1 (by unfold mBr; omega)
  · rw [e3]
    unfold m2S
    omega
theorem mon_5 (C : Cf) (N : Nat → Nat) (S : St) (w : Nat) : monS C N S 5 w = m4S C N S 5 w := by
  have a : Kp (fun c _ => c = 5) (m4S C N S) (m5S C N S) := Kp.it Kp.rf (fun i _ U hU => hU.shs (by decide) (by decide))
  have b : Kp (fun c _ => c = 5) (m5S C N S) (monS C N S) := m5_mon (fun c _ h => by omega) (fun _ _ => by decide) (fun _ _ => by decide) (fun _ _ _ _ => by decide) (fun _ => by decide)
  exact (a.tr b) 5 w rfl
theorem fe_9 {C : Cf} {S : St} {k j : Nat} : feS C k S 9 j = if j = k then feG C S k else S 9 j := by
  unfold feS noteS
  rw [u2_c _ _ _ (by decide)]
  split
  · rw [u2_c _ _ _ (by decide), u2_ap, giveS_c (by decide) (by decide) (by decide)]
    by_cases h : j = k
    · rw [if_pos ⟨rfl, h⟩, if_pos h]
    · rw [if_neg (fun z => h z.2), if_neg h]
  · rw [clr_c (by decide), u2_c _ _ _ (by decide), u2_ap, giveS_c (by decide) (by decide) (by decide)]
    by_cases h : j = k
    · rw [if_pos ⟨rfl, h⟩, if_pos h]
    · rw [if_neg (fun z => h z.2), if_neg h]
theorem fes_9 {C : Cf} {N : Nat → Nat} {S : St} {k : Int} (hC : Cok C N) (hW : Wk k S) (hk : k ≤ 1099511627776) : ∀ n, n ≤ N 2 → ∀ j, j < n → 0 ≤ (itr (feS C) S n 9 j).toInt ∧ (itr (feS C) S n 9 j).toInt ≤ 50
  | 0, _ => fun j h => absurd h (Nat.not_lt_zero j)
  | n + 1, hn => by
    intro j hj
    have hD := fe_ok C N S k hC hW hk n (by omega)
    show 0 ≤ (feS C n (itr (feS C) S n) 9 j).toInt ∧ (feS C n (itr (feS C) S n) 9 j).toInt ≤ 50
    rw [fe_9]
    by_cases h : j = n
    · rw [if_pos h]
      have := feG_ok (C := C) (S := itr (feS C) S n) (k := n) (hD _ (hC.sp (by omega)).2).1
      omega
    · rw [if_neg h]
      exact fes_9 hC hW hk n (by omega) j (by omega)
def Sm (N : Nat → Nat) (S : St) : Prop := (∀ w, w < N 0 → 0 ≤ (S 5 w).toInt ∧ (S 5 w).toInt ≤ 10000000) ∧ (∀ k, k < N 2 → 0 ≤ (S 9 k).toInt ∧ (S 9 k).toInt ≤ 50)
def LV (C : Cf) (N : Nat → Nat) (S : St) (m : Nat) : Prop := Iv C N S m ∧ Hv C N S m ∧ Sm N S ∧ N 0 ≤ 8 ∧ N 1 ≤ 3 ∧ N 2 ≤ 3
theorem mon_Sm {C : Cf} {N : Nat → Nat} {S : St} {m : Nat} (hm : m ≤ 600) (hI : Iv C N S m) : Sm N (monS C N S) := by
  obtain ⟨hC, hR, hX, h3, hZ, hW, hE, h13, hq, hB, h10⟩ := hI
  have h13' : (S 13 0).toInt ≤ 900 := by rw [h13, lN_toInt (by omega)]; omega
  refine ⟨fun w hw => ?_, fun k hk => ?_⟩
  · rw [mon_5]
    exact m4_5 hC hW (by omega) hE h13' w hw
  · have h4 := m4_ok C N S _ hC hW (by omega) (by omega) hE h13'
    have h5 : Wk (50000 + 100000500 * (m : Int) + 100000000) (m5S C N S) := h4.row (m5_0 _ 12)
    have h6 := crk_ok C _ _ hX (by omega) h5
    have h7 := (ra_ok C (m6S C N S) (50000 + 100000500 * (m : Int) + 100000000) hR h6 (by omega) (by omega) 12 (by omega)).1
    exact fes_9 hC h7 (by omega) (N 2) (Nat.le_refl _) k hk
theorem mon_LV {C : Cf} {N : Nat → Nat} {S : St} {m : Nat} (hm : m ≤ 600) (h : LV C N S m) : LV C N (monS C N S) (m + 1) :=
  ⟨mon_Iv (by omega) h.1, mon_Hv (by omega) h.1 h.2.1, mon_Sm hm h.1, h.2.2.2⟩
theorem mns_LV {C : Cf} {N : Nat → Nat} {S : St} {m : Nat} (h : LV C N S m) : ∀ n, m + n ≤ 600 → LV C N (mnS C N S n) (m + n)
  | 0, _ => h
  | n + 1, hn => mon_LV (m := m + n) (by omega) (mns_LV h n (by omega))
theorem LV.c {C : Cf} {N : Nat → Nat} {S : St} {m : Nat} (h : LV C N S m) : Cok C N := h.1.1
theorem LV.wok {C : Cf} {N : Nat → Nat} {S : St} {m : Nat} (h : LV C N S m) (hm : m ≤ 600) : Wok S := h.1.2.2.2.2.2.1.ok (by omega)
theorem LV.shr {C : Cf} {N : Nat → Nat} {S : St} {m : Nat} (h : LV C N S m) : Shr S := h.2.1.2.2.2.shr
theorem LV.q {C : Cf} {N : Nat → Nat} {S : St} {m : Nat} (h : LV C N S m) (hm : m ≤ 600) : S 14 0 = lN (qN S) ∧ qN S ≤ 900000 := ⟨h.1.2.2.2.2.2.2.2.2.1.1, by have := h.1.2.2.2.2.2.2.2.2.1.2; omega⟩
theorem LV.m13 {C : Cf} {N : Nat → Nat} {S : St} {m : Nat} (h : LV C N S m) : S 13 0 = lN m := h.1.2.2.2.2.2.2.2.1
/-! what `same` compares -/
theorem lig_l (S : St) (b : Nat) : (if S 3 b ≤ 1999 then (if S 3 b ≤ 999 then 0 else 1) else 2) = lig S b := by
  unfold lig
  by_cases h2 : S 3 b ≤ 1999
  · rw [if_pos h2]
    have h3 := (lg_19 _).mp h2
    by_cases h1 : S 3 b ≤ 999
    · rw [if_pos h1, if_neg ((lg_9 _).mp h1)]
    · rw [if_neg h1, if_pos (Decidable.not_not.mp (fun z => h1 ((lg_9 _).mpr z))), if_neg h3]
  · rw [if_neg h2]
    have h3 : 2000 ≤ S 3 b := Decidable.not_not.mp (fun z => h2 ((lg_19 _).mpr z))
    have h4 : 1000 ≤ S 3 b := by
      rw [z_le] at h3 ⊢
      have h5 : (1000 : Int64).toInt = 1000 := rfl
      have h6 : (2000 : Int64).toInt = 2000 := rfl
      omega
    rw [if_pos h4, if_pos h3]
theorem wl_eq (S : St) : wtN S 12 = itr (fun i a => a + S 0 i) 0 12 := by
  first | rfl | (unfold wtN; rfl)
theorem b01 {x : Int64} (h : x = 0 ∨ x = 1) : (if x.toInt32 = 0 then (0 : Int64) else 1) = x.toInt32.toInt64 := by
  rcases h with rfl | rfl <;> decide
/-- the class's answer to who is to blame, up to n wells -/
theorem blm_ok {S : St} {k : Nat} : ∀ n, n ≤ 1000 → 0 ≤ (blm S k n).2.toInt ∧ (∀ w, w < n → (S 11 (10 * k + w)).toInt ≤ (blm S k n).2.toInt) ∧ ((blm S k n).1 = -1 ∧ (blm S k n).2 = 0 ∨ ∃ b, b < n ∧ (blm S k n).1 = nI b ∧ (blm S k n).2 = S 11 (10 * k + b) ∧ 0 < (S 11 (10 * k + b)).toInt ∧ ∀ w, w < b → (S 11 (10 * k + w)).toInt < (S 11 (10 * k + b)).toInt)
  | 0, _ => ⟨by show 0 ≤ (0 : Int64).toInt; decide, fun w h => absurd h (Nat.not_lt_zero w), Or.inl ⟨rfl, rfl⟩⟩
  | n + 1, hn => by
    obtain ⟨h0, h1, h2⟩ := blm_ok (S := S) (k := k) n (by omega)
    rw [blm_s]
    have hz : (0 : Int64).toInt = 0 := rfl
    by_cases h : S 11 (10 * k + n) ≤ (blm S k n).2
    · rw [if_pos h]
      rw [z_le] at h
      refine ⟨h0, fun w hw => ?_, ?_⟩
      · by_cases hwn : w = n
        · rw [hwn]; exact h
        · exact h1 w (by omega)
      · rcases h2 with h2 | ⟨b, b1, b2, b3, b4, b5⟩
        · exact Or.inl h2
        · exact Or.inr ⟨b, by omega, b2, b3, b4, b5⟩
    · rw [if_neg h]
      rw [z_le] at h
      refine ⟨by show 0 ≤ (S 11 (10 * k + n)).toInt; omega, fun w hw => ?_, Or.inr ⟨n, Nat.lt_succ_self n, rfl, rfl, by omega, fun w hw => ?_⟩⟩
      · show (S 11 (10 * k + w)).toInt ≤ (S 11 (10 * k + n)).toInt
        by_cases hwn : w = n
        · rw [hwn]; exact Int.le_refl _
        · have := h1 w (by omega)
          omega
      · have := h1 w hw
        omega
theorem blame_eq {S : St} {k n0 : Nat} (hn : n0 ≤ 8) (hz : ∀ w, n0 ≤ w → w < 10 → S 11 (10 * k + w) = 0) : (blm S k 10).1 = blI S k n0 := by
  have hb := bdn_ok (S := S) (i := k) (n0 := n0) n0 (Nat.le_refl _)
  obtain ⟨h0, h1, h2⟩ := blm_ok (S := S) (k := k) 10 (by decide)
  have z0 : (0 : Int64).toInt = 0 := rfl
  unfold blI
  obtain ⟨r, hr⟩ : ∃ r, r = bdn S k n0 n0 := ⟨_, rfl⟩
  rw [← hr] at hb ⊢
  rw [Nat.sub_self] at hb
  rcases h2 with ⟨h2, h3⟩ | ⟨b, b1, b2, b3, b4, b5⟩
  · have hr0 : r = 0 := by
      refine Decidable.byContradiction fun hne => ?_
      obtain ⟨a1, a2, a3, a4, a5⟩ := hb.2.2 (by omega)
      have := h1 (r - 1) (by omega)
      rw [h3, z0] at this
      exact a3 (by rw [z_le, z0]; exact this)
    rw [h2, hr0]
    rfl
  · have hbn : b < n0 := by
      refine Decidable.byContradiction fun hne => ?_
      rw [hz b (by omega) b1, z0] at b4
      omega
    have hr0 : ¬ r = 0 := fun h => by
      have := hb.2.1 h b (Nat.zero_le _) hbn
      rw [z_le, z0] at this
      omega
    obtain ⟨a1, a2, a3, a4, a5⟩ := hb.2.2 (by omega)
    rw [dI_p hr0, b2]
    have e : b = r - 1 := by
      rcases Nat.lt_trichotomy b (r - 1) with h | h | h
      · have q1 := a5 b (Nat.zero_le _) h
        have q2 := h1 (r - 1) (by omega)
        rw [b3] at q2
        omega
      · exact h
      · have q1 := b5 (r - 1) h
        have q2 := a4 b (Nat.zero_le _) hbn
        omega
    rw [e]
