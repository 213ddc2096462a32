/-- a month whole -/
def m1S (C : Cf) (N : Nat → Nat) (S : St) : St := itr (shW C N) (u2 S 13 0 (S 13 0 + 1)) (N 0)
def m2S (C : Cf) (N : Nat → Nat) (S : St) : St := itr (dwS C N) (m1S C N S) (N 0)
def mBr (C : Cf) (N : Nat → Nat) (S : St) : Int64 := brn C N (m1S C N S) (N 0)
def mBh (C : Cf) (N : Nat → Nat) (S : St) : Int64 := brh C N (m1S C N S) (N 0)
def mSel (C : Cf) (N : Nat → Nat) (S : St) : Int64 × Int64 := selP C (mBr C N S) (mBh C N S) (m2S C N S 12 5) (N 1)
def m3S (C : Cf) (N : Nat → Nat) (S : St) : St := u2 (m2S C N S) 12 5 (mSel C N S).2
def m4S (C : Cf) (N : Nat → Nat) (S : St) : St := gbS C N (m3S C N S) (mBr C N S) (mSel C N S).1
def m5S (C : Cf) (N : Nat → Nat) (S : St) : St := itr shS (m4S C N S) 12
def monQ (C : Cf) (N : Nat → Nat) (S : St) (Qk : Nat → Int64) : Nat → Int64 := shQ (m4S C N S) Qk 12
def m6S (C : Cf) (N : Nat → Nat) (S : St) : St := crk C (m5S C N S)
def m7S (C : Cf) (N : Nat → Nat) (S : St) : St := itr (raS C) (m6S C N S) 12
def monS (C : Cf) (N : Nat → Nat) (S : St) : St := itr (feS C) (m7S C N S) (N 2)
def monZ (C : Cf) (N : Nat → Nat) (S Z : St) : St := itr (ahd (m5S C N S)) (u2 (u2 (u2 Z 3 0 (mBr C N S)) 3 1 (mBh C N S)) 3 2 (mSel C N S).1) 12
theorem Wk.mono {k k2 : Int} {S : St} (h : Wk k S) (hk : k ≤ k2) : Wk k2 S := fun b hb => ⟨(h b hb).1, Int.le_trans (h b hb).2 hk⟩
theorem Wk.row {k : Int} {S T : St} (h : Wk k S) (e : T 0 = S 0) : Wk k T := fun b hb => by rw [e]; exact h b hb
theorem shW_c {C : Cf} {N : Nat → Nat} {w : Nat} {S : St} {c : Nat} (h5 : ¬ c = 5) (h6 : ¬ c = 6) : shW C N w S c = S c := by
  unfold shW
  rw [u2_c _ _ _ h6, u2_c _ _ _ h5]
theorem m1_c {C : Cf} {N : Nat → Nat} {S : St} {c : Nat} (h5 : ¬ c = 5) (h6 : ¬ c = 6) (h13 : ¬ c = 13) : m1S C N S c = S c := by
  unfold m1S
  rw [itr_c (fun n T => shW_c h5 h6), u2_c _ _ _ h13]
theorem m1_ok (C : Cf) (N : Nat → Nat) (S : St) (k : Int) (hW : Wk k S) (hE : Wel N S) (hm : (S 13 0).toInt ≤ 900) : Wk k (m1S C N S) ∧ Wel N (m1S C N S) := by
  have h13 : m1S C N S 13 0 = S 13 0 + 1 := by
    unfold m1S
    rw [itr_c (fun n T => shW_c (by decide) (by decide)), u2_same]
  have h1 : (1 : Int64).toInt = 1 := rfl
  have hp := hE.2.2.1
  refine ⟨hW.row (m1_c (by decide) (by decide) (by decide)), fun w hw => scok_c (m1_c (by decide) (by decide) (by decide)) (hE.1 w hw), fun w hw => ?_, ?_⟩
  · rw [m1_c (by decide) (by decide) (by decide)]
    exact hE.2.1 w hw
  · rw [h13, z_add (by omega) (by omega)]
    omega
theorem dw_c {C : Cf} {N : Nat → Nat} {S : St} {w : Nat} {c : Nat} (h0 : ¬ c = 0) (h1 : ¬ c = 1) (h2 : ¬ c = 2) (h4 : ¬ c = 4) (h5 : ¬ c = 5) (h7 : ¬ c = 7) (h8 : ¬ c = 8) (h11 : ¬ c = 11) (h12 : ¬ c = 12) : dwS C N w S c = S c := by
  unfold dwS
  split
  · rfl
  · exact drawS_13 h0 h1 h2 h4 h5 h7 h8 h11 h12
theorem gb1_c {C : Cf} {br W : Int64} {w : Nat} {S : St} {c : Nat} (h : ¬ c = 5) : gb1 C br W w S c = S c := by
  unfold gb1
  split
  · rfl
  · exact u2_c _ _ _ h
theorem gb2_c {C : Cf} {hot : Int64} {w : Nat} {S : St} {c : Nat} (h0 : ¬ c = 0) (h1 : ¬ c = 1) (h3 : ¬ c = 3) : gb2 C hot w S c = S c := by
  unfold gb2
  split
  · rfl
  · unfold takeS
    rw [u2_c _ _ _ h3, u2_c _ _ _ h1, u2_c _ _ _ h0]
theorem gbS_c {C : Cf} {N : Nat → Nat} {S : St} {br hot : Int64} {c : Nat} (h0 : ¬ c = 0) (h1 : ¬ c = 1) (h3 : ¬ c = 3) (h5 : ¬ c = 5) (h12 : ¬ c = 12) : gbS C N S br hot c = S c := by
  unfold gbS
  rw [itr_c (fun n T => gb2_c h0 h1 h3), u2_c _ _ _ h12, itr_c (fun n T => gb1_c h5)]
theorem m3_c {C : Cf} {N : Nat → Nat} {S : St} {c : Nat} (h0 : ¬ c = 0) (h1 : ¬ c = 1) (h2 : ¬ c = 2) (h4 : ¬ c = 4) (h5 : ¬ c = 5) (h6 : ¬ c = 6) (h7 : ¬ c = 7) (h8 : ¬ c = 8) (h11 : ¬ c = 11) (h12 : ¬ c = 12) (h13 : ¬ c = 13) : m3S C N S c = S c := by
  unfold m3S m2S
  rw [u2_c _ _ _ h12, itr_c (fun n T => dw_c h0 h1 h2 h4 h5 h7 h8 h11 h12), m1_c h5 h6 h13]
theorem m4_q (C : Cf) (N : Nat → Nat) (S : St) : m4S C N S 14 0 = S 14 0 := by
  unfold m4S
  rw [gbS_c (by decide) (by decide) (by decide) (by decide) (by decide), m3_c (by decide) (by decide) (by decide) (by decide) (by decide) (by decide) (by decide) (by decide) (by decide) (by decide) (by decide)]
theorem ret_congr {C : Cf} {S T : St} {w : Nat} (h : T 6 = S 6) : ret_ C T w = ret_ C S w := by
  unfold ret_
  rw [h]
theorem partV_congr {C : Cf} {S T : St} {br W : Int64} {w : Nat} (h : T 3 = S 3) : partV C T br w W = partV C S br w W := by
  unfold partV lig
  rw [h]
theorem gb1_5 (C : Cf) (br W : Int64) (T : St) : ∀ n j, itr (gb1 C br W) T n 5 j = if j < n ∧ ret_ C T j = true then partV C T br j W else T 5 j
  | 0, j => (if_neg (fun z => Nat.not_lt_zero _ z.1)).symm
  | n + 1, j => by
    have ih := gb1_5 C br W T n j
    have e6 : itr (gb1 C br W) T n 6 = T 6 := itr_c (fun n T => gb1_c (by decide)) T n
    have e3 : itr (gb1 C br W) T n 3 = T 3 := itr_c (fun n T => gb1_c (by decide)) T n
    show gb1 C br W n (itr (gb1 C br W) T n) 5 j = _
    have e : gb1 C br W n (itr (gb1 C br W) T n) = if ret_ C T n = false then itr (gb1 C br W) T n else u2 (itr (gb1 C br W) T n) 5 n (partV C T br n W) := by
      show (if ret_ C (itr (gb1 C br W) T n) n = false then _ else _) = _
      rw [ret_congr e6, partV_congr e3]
    rw [e]
    by_cases hr : ret_ C T n = false
    · rw [if_pos hr, ih]
      by_cases hj : j = n
      · subst hj
        rw [if_neg (fun z => Nat.lt_irrefl _ z.1), if_neg (fun z => by rw [hr] at z; exact absurd z.2 (by decide))]
      · by_cases hc : j < n ∧ ret_ C T j = true
        · rw [if_pos hc, if_pos ⟨by omega, hc.2⟩]
        · rw [if_neg hc, if_neg (fun z => hc ⟨by omega, z.2⟩)]
    · rw [if_neg hr, u2_ap]
      by_cases hj : j = n
      · subst hj
        rw [if_pos ⟨rfl, rfl⟩, if_pos ⟨Nat.lt_succ_self _, by simpa using hr⟩]
      · rw [if_neg (fun z => hj z.2), ih]
        by_cases hc : j < n ∧ ret_ C T j = true
        · rw [if_pos hc, if_pos ⟨by omega, hc.2⟩]
        · rw [if_neg hc, if_neg (fun z => hc ⟨by omega, z.2⟩)]
theorem stm_ok {x hot : Int64} (h0 : 0 ≤ x.toInt) (h1 : x.toInt ≤ 1000) : 0 ≤ (stm x hot).toInt ∧ (stm x hot).toInt ≤ x.toInt := by
  have hz : (0 : Int64).toInt = 0 := rfl
  have h100 : (100 : Int64).toInt = 100 := rfl
  have h200 : (200 : Int64).toInt = 200 := rfl
  unfold stm
  by_cases h : hot ≤ 100
  · rw [if_pos h]
    omega
  · rw [if_neg h]
    rw [z_le] at h
    have hr := Int64.toInt_lt hot
    have hs : (hot - 100).toInt = hot.toInt - 100 := by rw [z_sub (by omega) (by omega)]; rfl
    have ht : ∃ t : Int64, t = (if 200 < hot - 100 then 200 else hot - 100) ∧ 0 ≤ t.toInt ∧ t.toInt ≤ 200 := by
      refine ⟨_, rfl, ?_⟩
      by_cases hh : 200 < hot - 100
      · rw [if_pos hh]
        omega
      · rw [if_neg hh]
        rw [z_lt] at hh
        omega
    obtain ⟨t, et, t0, t1⟩ := ht
    rw [← et]
    have p0 := Int.mul_nonneg h0 t0
    have p1 := Int.mul_le_mul_of_nonneg_left t1 h0
    have hm : (x * t).toInt = x.toInt * t.toInt := z_mul (by omega) (by omega)
    have hd : (x * t / 400).toInt = (x * t).toInt / 400 := dv_ok (by omega) (by decide) (by decide)
    rw [hd, hm]
    omega
theorem brW_ok {C : Cf} {S : St} {w : Nat} (hm : muN C w ≤ 1000) (h0 : 0 ≤ (S 0 (plN C w)).toInt) : 0 ≤ (brW C S w).toInt ∧ (brW C S w).toInt ≤ 1000 := by
  have h1 := drW_ok hm h0
  have h2 := stm_ok (hot := deg S (plN C w)) h1.1 h1.2.2
  unfold brW
  rw [z_sub (by omega) (by omega)]
  omega
theorem brn_ok {C : Cf} {N : Nat → Nat} {S : St} {k : Int} (hC : Cok C N) (hW : Wk k S) (hk : k ≤ 1099511627776) (hE : Wel N S) : ∀ n, n ≤ N 0 → 0 ≤ (brn C N S n).toInt ∧ (brn C N S n).toInt ≤ 1000 * n
  | 0, _ => ⟨(by decide : 0 ≤ (0 : Int64).toInt), (by decide : (0 : Int64).toInt ≤ 1000 * ((0 : Nat) : Int))⟩
  | n + 1, hn => by
    have ih := brn_ok hC hW hk hE n (by omega)
    have hN := hC.n0
    rw [brn_s]
    split
    · omega
    · have hb := brW_ok (hC.mu (show n < N 0 from hn)).2 ((dw_ok C N S k hC hW hk hE n (by omega)).1 _ (hC.pl (show n < N 0 from hn)).2).1
      rw [z_add (by omega) (by omega)]
      omega
theorem part_ok {C : Cf} {S : St} {br W : Int64} {w : Nat} (hm : C 4 w = nI (muN C w) ∧ muN C w ≤ 1000) (h0 : 0 ≤ br.toInt) (h1 : br.toInt ≤ 10000) : 0 ≤ (partV C S br w W).toInt ∧ (partV C S br w W).toInt ≤ 10000000 := by
  have hz : (0 : Int64).toInt = 0 := rfl
  have hm2 := hm.2
  have e1 : (C 4 w).toInt64 = lN (muN C w) := by
    rw [hm.1]
    exact nI_l (by omega)
  have hx : 0 ≤ (if W ≤ 0 then 0 else br * (C 4 w).toInt64 / W).toInt ∧ (if W ≤ 0 then 0 else br * (C 4 w).toInt64 / W).toInt ≤ 10000000 := by
    by_cases h : W ≤ 0
    · rw [if_pos h]
      omega
    · rw [if_neg h, e1]
      obtain ⟨n, hn, en⟩ := pk_lOf (x := br) (fun z => by rw [z_lt] at z; omega)
      obtain ⟨m, hm3, em⟩ := pk_lOf (x := W) (fun z => h (by rw [z_lt] at z; rw [z_le]; omega))
      have hn2 : n ≤ 10000 := by
        rw [en, pk_lT hn] at h1
        omega
      have hm0 : 0 < m := by
        rcases Nat.eq_zero_or_pos m with e | e
        · subst e
          subst em
          exact absurd (by decide) h
        · exact e
      have hp := Nat.mul_le_mul hn2 hm2
      have hq : n * muN C w / m ≤ n * muN C w := Nat.div_le_self _ _
      have hq2 : n * muN C w / m ≤ 10000000 := Nat.le_trans hq (by omega)
      rw [en, em, lN_mul, pk_lDiv (by omega) hm0 hm3]
      generalize n * muN C w / m = q at hq2
      rw [pk_lT (by omega)]
      omega
  unfold partV
  generalize (if W ≤ 0 then 0 else br * (C 4 w).toInt64 / W) = x at hx
  split
  · exact hx
  · have hd : (x / 2).toInt = x.toInt / 2 := dv_ok hx.1 (by decide) (by decide)
    rw [hd]
    omega
theorem gb2_0 {C : Cf} {hot : Int64} {w j : Nat} {S : St} : gb2 C hot w S 0 j = if ret_ C S w = true ∧ j = plN C w then S 0 (plN C w) + S 5 w else S 0 j := by
  unfold gb2 takeS
  by_cases h : ret_ C S w = false
  · rw [if_pos h, if_neg (fun z => by rw [h] at z; exact absurd z.1 (by decide))]
  · have h2 : ret_ C S w = true := by simpa using h
    rw [if_neg h, u2_c _ _ _ (by decide), u2_c _ _ _ (by decide), u2_ap]
    by_cases hj : j = plN C w
    · rw [if_pos ⟨rfl, hj⟩, if_pos ⟨h2, hj⟩]
    · rw [if_neg (fun z => hj z.2), if_neg (fun z => hj z.2)]
theorem gb_ok {C : Cf} {N : Nat → Nat} {V : St} {hot : Int64} {k : Int} (hC : Cok C N) (h0 : 0 ≤ k) (hk : k + 200000000 ≤ 1099511627776) (hW : Wk k V) (h5 : ∀ j, j < N 0 → ret_ C V j = true → 0 ≤ (V 5 j).toInt ∧ (V 5 j).toInt ≤ 10000000) : ∀ n, n ≤ N 0 → Wk (k + 10000000 * n) (itr (gb2 C hot) V n)
  | 0, _ => by
    show Wk (k + 10000000 * (0 : Nat)) V
    exact hW.mono (by omega)
  | n + 1, hn => by
    have ih := gb_ok (hot := hot) hC h0 hk hW h5 n (by omega)
    have hN := hC.n0
    have e5 : itr (gb2 C hot) V n 5 = V 5 := itr_c (fun n T => gb2_c (by decide) (by decide) (by decide)) V n
    have e6 : itr (gb2 C hot) V n 6 = V 6 := itr_c (fun n T => gb2_c (by decide) (by decide) (by decide)) V n
    have e : itr (gb2 C hot) V (n + 1) = gb2 C hot n (itr (gb2 C hot) V n) := rfl
    rw [e]
    intro b hb
    rw [gb2_0, ret_congr e6, e5]
    have hb1 := ih b hb
    by_cases hc : ret_ C V n = true ∧ b = plN C n
    · rw [if_pos hc]
      have hv := h5 n hn hc.1
      have hb2 := ih _ (hC.pl (show n < N 0 from hn)).2
      rw [z_add (by omega) (by omega)]
      omega
    · rw [if_neg hc]
      omega
theorem m4_ok (C : Cf) (N : Nat → Nat) (S : St) (k : Int) (hC : Cok C N) (hW : Wk k S) (h0 : 0 ≤ k) (hk : k + 200000000 ≤ 1099511627776) (hE : Wel N S) (hm : (S 13 0).toInt ≤ 900) : Wk (k + 100000000) (m4S C N S) := by
  have h1 := m1_ok C N S k hW hE hm
  have h2 := (dw_ok C N _ k hC h1.1 (by omega) h1.2 (N 0) (Nat.le_refl _)).1
  have hN := hC.n0
  have hbr := brn_ok hC h1.1 (by omega) h1.2 (N 0) (Nat.le_refl _)
  have h3 : Wk k (m3S C N S) := h2.row (u2_c _ _ _ (by decide))
  have hbr2 : 0 ≤ (mBr C N S).toInt ∧ (mBr C N S).toInt ≤ 10000 := by
    unfold mBr
    omega
  unfold m4S
  generalize m3S C N S = T at h3
  generalize mBr C N S = br at hbr2
  unfold gbS
  generalize wgt C T (N 0) = W
  have h4 : Wk k (u2 (itr (gb1 C br W) T (N 0)) 12 2 (itr (gb1 C br W) T (N 0) 12 2 + lft C br W T (N 0))) := h3.row (by rw [u2_c _ _ _ (by decide)]; exact itr_c (fun n T => gb1_c (by decide)) T (N 0))
  refine (gb_ok hC h0 hk h4 (fun j hj hr => ?_) (N 0) (Nat.le_refl _)).mono (by omega)
  have e6 : (u2 (itr (gb1 C br W) T (N 0)) 12 2 (itr (gb1 C br W) T (N 0) 12 2 + lft C br W T (N 0))) 6 = T 6 := by
    rw [u2_c _ _ _ (by decide)]
    exact itr_c (fun n T => gb1_c (by decide)) T (N 0)
  rw [ret_congr e6] at hr
  rw [u2_c _ _ _ (by decide), gb1_5, if_pos ⟨hj, hr⟩]
  exact part_ok (hC.mu hj) hbr2.1 hbr2.2
def Xok (C : Cf) : Prop := ∀ b, b < 12 → (0 ≤ (C 0 b).toInt ∧ (C 0 b).toInt ≤ 100) ∧ (0 ≤ (C 1 b).toInt ∧ (C 1 b).toInt ≤ 100)
def Inv10 (k : Int) (Z S : St) (u : Nat → Nat) : Prop := ∀ j, j < 12 → 10 * (Z 0 j).toInt - (Z 0 j).toInt * (u j : Int) ≤ 10 * (S 0 j).toInt ∧ 10 * (S 0 j).toInt ≤ 10 * (Z 0 j).toInt + (k - (Z 0 j).toInt) * (u j : Int)
def ug (a b : Nat) (u : Nat → Nat) : Nat → Nat := fun j => if j = a ∨ j = b then u j + 1 else u j
theorem mulS (z : Int) (n : Nat) : z * ((n + 1 : Nat) : Int) = z * (n : Int) + z := by
  rw [Int.natCast_add, Int.mul_add]
  simp
theorem i10_rng {k : Int} {Z S : St} {u : Nat → Nat} (hI : Inv10 k Z S u) {j : Nat} (hj : j < 12) (hZ : 0 ≤ (Z 0 j).toInt ∧ (Z 0 j).toInt ≤ k) (hu : u j ≤ 10) : 0 ≤ (S 0 j).toInt ∧ (S 0 j).toInt ≤ k := by
  have h := hI j hj
  have p1 := Int.mul_le_mul_of_nonneg_left (show (u j : Int) ≤ 10 by omega) hZ.1
  have p2 := Int.mul_le_mul_of_nonneg_left (show (u j : Int) ≤ 10 by omega) (show 0 ≤ k - (Z 0 j).toInt by omega)
  omega
theorem i10_up {k : Int} {Z S : St} {u : Nat → Nat} (hI : Inv10 k Z S u) (hZ : ∀ j, j < 12 → 0 ≤ (Z 0 j).toInt ∧ (Z 0 j).toInt ≤ k) (a b : Nat) : Inv10 k Z S (ug a b u) := by
  intro j hj
  have h := hI j hj
  have hz := hZ j hj
  unfold ug
  by_cases hc : j = a ∨ j = b
  · rw [if_pos hc, mulS, mulS]
    omega
  · rw [if_neg hc]
    exact h
theorem flow_f {k : Int} {x y : Int64} {wd : Int32} (hx : 0 ≤ x.toInt ∧ x.toInt ≤ k) (hy : 0 ≤ y.toInt ∧ y.toInt ≤ k) (hk : k ≤ 1099511627776) (hw : 0 ≤ wd.toInt ∧ wd.toInt ≤ 100) (h : y.toInt ≤ x.toInt) : 0 ≤ ((x - y) * wd.toInt64 / 1000).toInt ∧ 10 * ((x - y) * wd.toInt64 / 1000).toInt ≤ x.toInt - y.toInt := by
  have hd : (x - y).toInt = x.toInt - y.toInt := z_sub (by omega) (by omega)
  have hw2 : wd.toInt64.toInt = wd.toInt := Int32.toInt_toInt64 _
  have p0 := Int.mul_nonneg (show 0 ≤ x.toInt - y.toInt by omega) hw.1
  have p1 := Int.mul_le_mul_of_nonneg_left hw.2 (show 0 ≤ x.toInt - y.toInt by omega)
  have hm : ((x - y) * wd.toInt64).toInt = (x.toInt - y.toInt) * wd.toInt := by
    rw [z_mul (by rw [hd, hw2]; omega) (by rw [hd, hw2]; omega), hd, hw2]
  have hq : ((x - y) * wd.toInt64 / 1000).toInt = ((x - y) * wd.toInt64).toInt / 1000 := dv_ok (by rw [hm]; exact p0) (by decide) (by decide)
  rw [hq, hm]
  omega
theorem flow_0 {S Z : St} {a b j : Nat} {wd : Int32} (hab : ¬ b = a) : flowS S Z a b wd 0 j = if j = b then S 0 b + (Z 0 a - Z 0 b) * wd.toInt64 / 1000 else if j = a then S 0 a - (Z 0 a - Z 0 b) * wd.toInt64 / 1000 else S 0 j := by
  unfold flowS takeS
  rw [u2_c _ _ _ (show ¬ 0 = 2 by decide), u2_c _ _ _ (show ¬ 0 = 1 by decide), u2_ap]
  rw [u2_c _ _ _ (show ¬ 0 = 2 by decide), u2_c _ _ _ (show ¬ 0 = 1 by decide), u2_ne _ _ _ hab]
  by_cases hj : j = b
  · rw [if_pos ⟨rfl, hj⟩, if_pos hj]
  · rw [if_neg (fun z => hj z.2), if_neg hj, u2_ap]
    by_cases hja : j = a
    · rw [if_pos ⟨rfl, hja⟩, if_pos hja]
    · rw [if_neg (fun z => hja z.2), if_neg hja]
theorem i10_fl {k : Int} {Z S : St} {u : Nat → Nat} {a b : Nat} {wd : Int32} (hI : Inv10 k Z S u) (hZ : ∀ j, j < 12 → 0 ≤ (Z 0 j).toInt ∧ (Z 0 j).toInt ≤ k) (hk : k ≤ 1099511627776) (ha : a < 12) (hb : b < 12) (hab : ¬ b = a) (hw : 0 ≤ wd.toInt ∧ wd.toInt ≤ 100) (hu : ∀ j, j < 12 → u j ≤ 4) (h : (Z 0 b).toInt ≤ (Z 0 a).toInt) : Inv10 k Z (flowS S Z a b wd) (ug a b u) := by
  have hf := flow_f (hZ a ha) (hZ b hb) hk hw h
  have ra := i10_rng hI ha (hZ a ha) (Nat.le_trans (hu a ha) (by decide))
  have rb := i10_rng hI hb (hZ b hb) (Nat.le_trans (hu b hb) (by decide))
  have za := hZ a ha
  have zb := hZ b hb
  have ia := hI a ha
  have ib := hI b hb
  intro j hj
  rw [flow_0 hab]
  unfold ug
  by_cases hjb : j = b
  · subst hjb
    rw [if_pos rfl, if_pos (Or.inr rfl), mulS, mulS, z_add (by omega) (by omega)]
    omega
  · rw [if_neg hjb]
    by_cases hja : j = a
    · subst hja
      rw [if_pos rfl, if_pos (Or.inl rfl), mulS, mulS, z_sub (by omega) (by omega)]
      omega
    · rw [if_neg hja, if_neg (by omega)]
      exact hI j hj
theorem ug_sym (a b : Nat) (u : Nat → Nat) : ug a b u = ug b a u := by
  funext j
  unfold ug
  by_cases h : j = a ∨ j = b
  · rw [if_pos h, if_pos h.symm]
  · rw [if_neg h, if_neg (fun z => h z.symm)]
theorem i10_fb {k : Int} {Z S : St} {u : Nat → Nat} {a b : Nat} {wd : Int32} (hI : Inv10 k Z S u) (hZ : ∀ j, j < 12 → 0 ≤ (Z 0 j).toInt ∧ (Z 0 j).toInt ≤ k) (hk : k ≤ 1099511627776) (ha : a < 12) (hb : b < 12) (hab : ¬ b = a) (hw : 0 ≤ wd.toInt ∧ wd.toInt ≤ 100) (hu : ∀ j, j < 12 → u j ≤ 4) : Inv10 k Z (fbS S Z a b wd) (ug a b u) := by
  unfold fbS
  by_cases h1 : Z 0 a ≤ Z 0 b
  · rw [if_pos h1]
    by_cases h2 : Z 0 b ≤ Z 0 a
    · rw [if_pos h2]
      exact i10_up hI hZ a b
    · rw [if_neg h2, ug_sym]
      rw [z_le] at h1
      exact i10_fl hI hZ hk hb ha (fun e => hab e.symm) hw hu h1
  · rw [if_neg h1]
    rw [z_le] at h1
    exact i10_fl hI hZ hk ha hb hab hw hu (by omega)
def cX (b : Nat) (u : Nat → Nat) : Nat → Nat := if 12 ≤ b + 1 then u else if nbr b (b + 1) = false then u else ug b (b + 1) u
def cU (b : Nat) (u : Nat → Nat) : Nat → Nat := if 12 ≤ b + 4 then cX b u else ug b (b + 4) (cX b u)
theorem cU_le : ∀ n, n < 13 → ∀ j, j < 12 → itr cU (fun _ => 0) n j ≤ 4 := by decide +kernel
theorem cX_le : ∀ n, n < 12 → ∀ j, j < 12 → cX n (itr cU (fun _ => 0) n) j ≤ 4 := by decide +kernel
theorem i10_go {C : Cf} {k : Int} {Z S : St} (hX : Xok C) (hZ : ∀ j, j < 12 → 0 ≤ (Z 0 j).toInt ∧ (Z 0 j).toInt ≤ k) (hk : k ≤ 1099511627776) (hI : Inv10 k Z S (fun _ => 0)) : ∀ n, n ≤ 12 → Inv10 k Z (itr (crS C Z) S n) (itr cU (fun _ => 0) n)
  | 0, _ => hI
  | n + 1, hn => by
    have ih := i10_go hX hZ hk hI n (by omega)
    have e1 : itr (crS C Z) S (n + 1) = crS C Z n (itr (crS C Z) S n) := rfl
    have e2 : itr cU (fun _ => 0) (n + 1) = cU n (itr cU (fun _ => 0) n) := rfl
    have l1 := cU_le n (by omega)
    have l2 := cX_le n (by omega)
    rw [e1, e2]
    generalize itr (crS C Z) S n = T at ih
    generalize itr cU (fun _ => 0) n = u at ih l1 l2
    have hx := hX n (by omega)
    have s1 : Inv10 k Z (if 12 ≤ n + 1 then T else if nbr n (n + 1) = false then T else fbS T Z n (n + 1) (C 0 n)) (cX n u) := by
      unfold cX
      by_cases h : 12 ≤ n + 1
      · rw [if_pos h, if_pos h]
        exact ih
      · rw [if_neg h, if_neg h]
        by_cases h2 : nbr n (n + 1) = false
        · rw [if_pos h2, if_pos h2]
          exact ih
        · rw [if_neg h2, if_neg h2]
          exact i10_fb ih hZ hk (by omega) (by omega) (by omega) hx.1 l1
    unfold crS cU
    by_cases h : 12 ≤ n + 4
    · rw [if_pos h, if_pos h]
      exact s1
    · rw [if_neg h, if_neg h]
      exact i10_fb s1 hZ hk (by omega) (by omega) (by omega) hx.2 l2
theorem crk_ok (C : Cf) (S : St) (k : Int) (hX : Xok C) (hk : k ≤ 1099511627776) (hW : Wk k S) : Wk k (crk C S) := by
  unfold crk
  have hI : Inv10 k (fun c b => if c = 0 then S 0 b else if c = 1 then deg S b else S 2 b) S (fun _ => 0) := by
    intro j hj
    show 10 * (S 0 j).toInt - (S 0 j).toInt * ((0 : Nat) : Int) ≤ _ ∧ _ ≤ 10 * (S 0 j).toInt + (k - (S 0 j).toInt) * ((0 : Nat) : Int)
    simp
  have hg := i10_go hX (k := k) (Z := fun c b => if c = 0 then S 0 b else if c = 1 then deg S b else S 2 b) hW hk hI 12 (Nat.le_refl _)
  intro b hb
  exact i10_rng hg hb (hW b hb) (Nat.le_trans (cU_le 12 (by decide) b hb) (by decide))
theorem m5_0 (S : St) : ∀ n, itr shS S n 0 = S 0
  | 0 => rfl
  | n + 1 => by
    show shS n (itr shS S n) 0 = S 0
    unfold shS
    rw [u2_c _ _ _ (by decide)]
    split
    · exact m5_0 S n
    · exact m5_0 S n

theorem hV_X0_passMonth : yX0_passMonth.cls = RX0 ∧ yX0_passMonth.cls ≠ "java/lang/invoke/MethodHandle" ∧ yX0_passMonth.cls ≠ "java/lang/invoke/VarHandle" ∧ (parseMethodDescriptor yX0_passMonth.desc).map (fun d => d.parameters.length) = some 0 := by decide +kernel
abbrev rm_X0_passMonth : Room := { frames := 5, cells := 0, slots := 0, locals := 118 }
set_option maxRecDepth 100000 in
set_option maxHeartbeats 4000000 in
theorem m_X0_passMonth (l : Launch) (D : va_G) (cI cJ cZ : ClassId) (f : Nat → Nat) (C : Cf) (N : Nat → Nat) (S : St) (Qk : Nat → Int64) (Z : St) (k : Int) (hC : Cok C N) (hR : Rok C) (hW : Wk k S) (h0 : 0 ≤ k) (hk : k + 200000000 ≤ 1099511627776) (hE : Wel N S) (hm : (S 13 0).toInt ≤ 900) (hq : S 14 0 = lN (qN S) ∧ qN S ≤ 800000) (hX : Xok C) : g_Ct l D cI cJ cZ yX0_passMonth cX0_passMonth 1 none rm_X0_passMonth 0 0 [.ref (f 0)] (wF f cI cJ cZ C N S Qk Z) (g_eq none (wF f cI cJ cZ C N (monS C N S) (monQ C N S Qk) (monZ C N S Z))) := by
  refine g_body RX0 [(0, .ref (f 0))] kH_X0 rfl (Nat.le_of_ble_eq_true rfl) rfl ?_
  intro p e s m args below meth c A X hr hlk hmn Q hQ
  have hN0 := hC.n0
  have hN1 := hC.n1
  have hN2 := hC.n2
  have h1 := m1_ok C N S k hW hE hm
  have h4 := m4_ok C N S k hC hW h0 hk hE hm
  have hq4 : m4S C N S 14 0 = lN (qN (m4S C N S)) ∧ qN (m4S C N S) ≤ 900000 := by unfold qN; rw [m4_q]; exact ⟨hq.1, Nat.le_trans hq.2 (by decide)⟩
  have h5 : Wk (k + 100000000) (m5S C N S) := h4.row (m5_0 _ 12)
  have h6 := crk_ok C _ _ hX (by omega) h5
  have h7 := (ra_ok C (m6S C N S) (k + 100000000) hR h6 (by omega) (by omega) 12 (by omega)).1
  refine g_aload_n X 0 dX0_passMonth_0 rfl rfl ?_
  refine g_dup X dX0_passMonth_1 rfl ?_
  refine g_get X (C := RX0) (T := TX0) (N := 11) (v := .int ((S 13 0).toInt32)) inlX0 0 rfl rfl 0 (Nat.le_of_ble_eq_true rfl) kF_X0_9 rfl dX0_passMonth_2 ?_
  refine g_iconst X (v := nI 1) dX0_passMonth_5 (by decide +kernel) ?_
  refine g_iadd X (v := (S 13 0 + 1).toInt32) dX0_passMonth_6 (by rw [Int64.toInt32_add]; rfl) ?_
  obtain ⟨S1, eS1⟩ : ∃ z : St, z = u2 S 13 0 (S 13 0 + 1) := ⟨_, rfl⟩
  refine g_put X (C := RX0) (T := TX0) (N := 11) (ws' := wF f cI cJ cZ C N S1 Qk Z) inlX0 tyX0 tyX0_ok nmX0 0 rfl rfl 0 (Nat.le_of_ble_eq_true rfl) kF_X0_9 rfl rfl rfl (Nat.le_of_ble_eq_true rfl) dX0_passMonth_7 (by rw [eS1]; first | done | (rfl)) ?_
  refine g_aload_n X 0 dX0_passMonth_10 rfl rfl ?_
  obtain ⟨S2, eS2⟩ : ∃ z : St, z = itr (shW C N) S1 (N 0) := ⟨_, rfl⟩
  refine g_callV X (As := []) (rest := []) (m_X0_shutWells l D cI cJ cZ f C N S1 Qk Z  hC) kM_X0_83 kI_yX0_shutWells kS_yX0_shutWells kZ_RX0 kC_yX0_shutWells hV_X0_shutWells rfl rfl rfl 0 rfl (ci := 0) rfl ⟨Nat.le_of_ble_eq_true rfl, Nat.le_of_ble_eq_true rfl⟩ ⟨Nat.le_of_ble_eq_true rfl, Nat.le_of_ble_eq_true rfl⟩ (Nat.le_of_ble_eq_true rfl) dX0_passMonth_11 rfl (em_I 0 35 35 0) (em_C (by decide) (Nat.le_of_ble_eq_true rfl) rfl) (em_nd (by decide)) (g_kk1 (w2 := wF f cI cJ cZ C N S2 Qk Z) (by rw [eS2]; exact (em3 0 35 35 0 (by decide) (Nat.le_of_ble_eq_true rfl) rfl rfl rfl)) ?_)
  refine g_aload_n X 0 dX0_passMonth_14 rfl rfl ?_
  obtain ⟨S3, eS3⟩ : ∃ z : St, z = itr (dwS C N) S2 (N 0) := ⟨_, rfl⟩
  obtain ⟨X4, eX4⟩ : ∃ z : St, z = u2 (u2 Z 3 0 (brn C N S2 (N 0))) 3 1 (brh C N S2 (N 0)) := ⟨_, rfl⟩
  refine g_callV X (As := []) (rest := []) (m_X0_drawFromWells l D cI cJ cZ f C N S2 Qk Z k hC (by (try rw [eS2]); (try rw [eS1]); exact h1.1) (by omega) (by (try rw [eS2]); (try rw [eS1]); exact h1.2)) kM_X0_86 kI_yX0_drawFromWells kS_yX0_drawFromWells kZ_RX0 kC_yX0_drawFromWells hV_X0_drawFromWells rfl rfl rfl 0 rfl (ci := 0) rfl ⟨Nat.le_of_ble_eq_true rfl, Nat.le_of_ble_eq_true rfl⟩ ⟨Nat.le_of_ble_eq_true rfl, Nat.le_of_ble_eq_true rfl⟩ (Nat.le_of_ble_eq_true rfl) dX0_passMonth_15 rfl (em_I 0 35 35 0) (em_C (by decide) (Nat.le_of_ble_eq_true rfl) rfl) (em_nd (by decide)) (g_kk1 (w2 := wF f cI cJ cZ C N S3 Qk X4) (by rw [eX4]; rw [eS3]; exact (em3 0 35 35 0 (by decide) (Nat.le_of_ble_eq_true rfl) rfl rfl rfl)) ?_)
  refine g_aload_n X 0 dX0_passMonth_18 rfl rfl ?_
  obtain ⟨S5, eS5⟩ : ∃ z : St, z = u2 S3 12 5 (selP C (X4 3 0) (X4 3 1) (S3 12 5) (N 1)).2 := ⟨_, rfl⟩
  obtain ⟨X6, eX6⟩ : ∃ z : St, z = u2 X4 3 2 (selP C (X4 3 0) (X4 3 1) (S3 12 5) (N 1)).1 := ⟨_, rfl⟩
  refine g_callV X (As := []) (rest := []) (m_X0_sellHeat l D cI cJ cZ f C N S3 Qk X4  hC) kM_X0_89 kI_yX0_sellHeat kS_yX0_sellHeat kZ_RX0 kC_yX0_sellHeat hV_X0_sellHeat rfl rfl rfl 0 rfl (ci := 0) rfl ⟨Nat.le_of_ble_eq_true rfl, Nat.le_of_ble_eq_true rfl⟩ ⟨Nat.le_of_ble_eq_true rfl, Nat.le_of_ble_eq_true rfl⟩ (Nat.le_of_ble_eq_true rfl) dX0_passMonth_19 rfl (em_I 0 35 35 0) (em_C (by decide) (Nat.le_of_ble_eq_true rfl) rfl) (em_nd (by decide)) (g_kk1 (w2 := wF f cI cJ cZ C N S5 Qk X6) (by rw [eX6]; rw [eS5]; exact (em3 0 35 35 0 (by decide) (Nat.le_of_ble_eq_true rfl) rfl rfl rfl)) ?_)
  refine g_aload_n X 0 dX0_passMonth_22 rfl rfl ?_
  obtain ⟨S7, eS7⟩ : ∃ z : St, z = gbS C N S5 (X6 3 0) (X6 3 2) := ⟨_, rfl⟩
  refine g_callV X (As := []) (rest := []) (m_X0_giveBack l D cI cJ cZ f C N S5 Qk X6  hC) kM_X0_92 kI_yX0_giveBack kS_yX0_giveBack kZ_RX0 kC_yX0_giveBack hV_X0_giveBack rfl rfl rfl 0 rfl (ci := 0) rfl ⟨Nat.le_of_ble_eq_true rfl, Nat.le_of_ble_eq_true rfl⟩ ⟨Nat.le_of_ble_eq_true rfl, Nat.le_of_ble_eq_true rfl⟩ (Nat.le_of_ble_eq_true rfl) dX0_passMonth_23 rfl (em_I 0 35 35 0) (em_C (by decide) (Nat.le_of_ble_eq_true rfl) rfl) (em_nd (by decide)) (g_kk1 (w2 := wF f cI cJ cZ C N S7 Qk X6) (by rw [eS7]; exact (em3 0 35 35 0 (by decide) (Nat.le_of_ble_eq_true rfl) rfl rfl rfl)) ?_)
  refine g_aload_n X 0 dX0_passMonth_26 rfl rfl ?_
  obtain ⟨S8, eS8⟩ : ∃ z : St, z = itr shS S7 12 := ⟨_, rfl⟩
  obtain ⟨Qk9, eQk9⟩ : ∃ z : Nat → Int64, z = shQ S7 Qk 12 := ⟨_, rfl⟩
  refine g_callV X (As := []) (rest := []) (m_X0_shake l D cI cJ cZ f C N S7 Qk X6  (by (try rw [eS7]); (try rw [eX6]); (try rw [eS5]); (try rw [eX4]); (try rw [eS3]); (try rw [eS2]); (try rw [eS1]); exact hq4)) kM_X0_95 kI_yX0_shake kS_yX0_shake kZ_RX0 kC_yX0_shake hV_X0_shake rfl rfl rfl 0 rfl (ci := 0) rfl ⟨Nat.le_of_ble_eq_true rfl, Nat.le_of_ble_eq_true rfl⟩ ⟨Nat.le_of_ble_eq_true rfl, Nat.le_of_ble_eq_true rfl⟩ (Nat.le_of_ble_eq_true rfl) dX0_passMonth_27 rfl (em_I 0 35 35 0) (em_C (by decide) (Nat.le_of_ble_eq_true rfl) rfl) (em_nd (by decide)) (g_kk1 (w2 := wF f cI cJ cZ C N S8 Qk9 X6) (by rw [eQk9]; rw [eS8]; exact (em3 0 35 35 0 (by decide) (Nat.le_of_ble_eq_true rfl) rfl rfl rfl)) ?_)
  refine g_aload_n X 0 dX0_passMonth_30 rfl rfl ?_
  refine g_get X (C := RX0) (T := TX0) (N := 11) (v := .ref (f 1)) inlX0 0 rfl rfl 2 (Nat.le_of_ble_eq_true rfl) kF_X0_21 rfl dX0_passMonth_31 ?_
  obtain ⟨S10, eS10⟩ : ∃ z : St, z = crk C S8 := ⟨_, rfl⟩
  obtain ⟨X11, eX11⟩ : ∃ z : St, z = itr (ahd S8) X6 12 := ⟨_, rfl⟩
  refine g_callV X (As := []) (rest := []) (m_X1_flowThroughCracks l D cI cJ cZ (fun i => f (1 + i)) C S8 X6  (by (try rw [eQk9]); (try rw [eS8]); (try rw [eS7]); (try rw [eX6]); (try rw [eS5]); (try rw [eX4]); (try rw [eS3]); (try rw [eS2]); (try rw [eS1]); exact h5.ok (by omega))) kM_X0_98 kI_yX1_flowThroughCracks kS_yX1_flowThroughCracks kZ_RX1 kC_yX1_flowThroughCracks hV_X1_flowThroughCracks rfl rfl rfl 0 rfl (ci := 1) rfl ⟨Nat.le_of_ble_eq_true rfl, Nat.le_of_ble_eq_true rfl⟩ ⟨Nat.le_of_ble_eq_true rfl, Nat.le_of_ble_eq_true rfl⟩ (Nat.le_of_ble_eq_true rfl) dX0_passMonth_34 rfl (em_I 1 10 11 0) (em_C (by decide) (Nat.le_of_ble_eq_true rfl) rfl) (em_nd (by decide)) (g_kk1 (w2 := wF f cI cJ cZ C N S10 Qk9 X11) (by rw [eX11]; rw [eS10]; exact (em3 1 10 11 0 (by decide) (Nat.le_of_ble_eq_true rfl) rfl rfl (by rw [wF_g (S' := crk C S8) (S := S8) (fun c h => crk_oth _ _ h)]; rfl))) ?_)
  refine g_aload_n X 0 dX0_passMonth_37 rfl rfl ?_
  obtain ⟨S12, eS12⟩ : ∃ z : St, z = itr (raS C) S10 12 := ⟨_, rfl⟩
  refine g_callV X (As := []) (rest := []) (m_X0_rainAndWarm l D cI cJ cZ f C N S10 Qk9 X11 (k + 100000000) hR (by (try rw [eX11]); (try rw [eS10]); (try rw [eQk9]); (try rw [eS8]); (try rw [eS7]); (try rw [eX6]); (try rw [eS5]); (try rw [eX4]); (try rw [eS3]); (try rw [eS2]); (try rw [eS1]); exact h6) (by omega) (by omega)) kM_X0_101 kI_yX0_rainAndWarm kS_yX0_rainAndWarm kZ_RX0 kC_yX0_rainAndWarm hV_X0_rainAndWarm rfl rfl rfl 0 rfl (ci := 0) rfl ⟨Nat.le_of_ble_eq_true rfl, Nat.le_of_ble_eq_true rfl⟩ ⟨Nat.le_of_ble_eq_true rfl, Nat.le_of_ble_eq_true rfl⟩ (Nat.le_of_ble_eq_true rfl) dX0_passMonth_38 rfl (em_I 0 35 35 0) (em_C (by decide) (Nat.le_of_ble_eq_true rfl) rfl) (em_nd (by decide)) (g_kk1 (w2 := wF f cI cJ cZ C N S12 Qk9 X11) (by rw [eS12]; exact (em3 0 35 35 0 (by decide) (Nat.le_of_ble_eq_true rfl) rfl rfl rfl)) ?_)
  refine g_aload_n X 0 dX0_passMonth_41 rfl rfl ?_
  obtain ⟨S13, eS13⟩ : ∃ z : St, z = itr (feS C) S12 (N 2) := ⟨_, rfl⟩
  refine g_callV X (As := []) (rest := []) (m_X0_feedSprings l D cI cJ cZ f C N S12 Qk9 X11 (k + 100000000 + 500) hC (by (try rw [eS12]); (try rw [eX11]); (try rw [eS10]); (try rw [eQk9]); (try rw [eS8]); (try rw [eS7]); (try rw [eX6]); (try rw [eS5]); (try rw [eX4]); (try rw [eS3]); (try rw [eS2]); (try rw [eS1]); exact h7) (by omega)) kM_X0_104 kI_yX0_feedSprings kS_yX0_feedSprings kZ_RX0 kC_yX0_feedSprings hV_X0_feedSprings rfl rfl rfl 0 rfl (ci := 0) rfl ⟨Nat.le_of_ble_eq_true rfl, Nat.le_of_ble_eq_true rfl⟩ ⟨Nat.le_of_ble_eq_true rfl, Nat.le_of_ble_eq_true rfl⟩ (Nat.le_of_ble_eq_true rfl) dX0_passMonth_42 rfl (em_I 0 35 35 0) (em_C (by decide) (Nat.le_of_ble_eq_true rfl) rfl) (em_nd (by decide)) (g_kk1 (w2 := wF f cI cJ cZ C N S13 Qk9 X11) (by rw [eS13]; exact (em3 0 35 35 0 (by decide) (Nat.le_of_ble_eq_true rfl) rfl rfl rfl)) ?_)
  refine g_vret X hr hlk hQ dX0_passMonth_45 ?_
  show g_eq _ _ _ _
  try rw [eS13]
  try rw [eS12]
  try rw [eX11]
  try rw [eS10]
  try rw [eQk9]
  try rw [eS8]
  try rw [eS7]
  try rw [eX6]
  try rw [eS5]
  try rw [eX4]
  try rw [eS3]
  try rw [eS2]
  try rw [eS1]
  exact ⟨rfl, rfl⟩
