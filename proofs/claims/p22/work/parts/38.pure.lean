/-! the reference -/
def inB (v lo hi : Int32) : Bool := if v < lo then false else if hi < v then false else true
theorem lsr_m (x y : Int64) : (if y ≤ x then y else x) = (if y < x then y else x) := by
  by_cases h : y < x
  · rw [if_pos h, if_pos (Int64.le_of_lt h)]
  · rw [if_neg h]
    by_cases h2 : y ≤ x
    · rw [if_pos h2]
      exact Int64.le_antisymm h2 (Int64.not_lt.mp h)
    · rw [if_neg h2]
def rgt (b o : Nat) : Bool := if ¬ o = b + 1 then false else if 3 ≤ b % 4 then false else true
def nrB (b o : Nat) : Bool := if b = o then true else if nbr b o = false then false else true
theorem nr_sym : ∀ b, b < 12 → ∀ o, o < 12 → nrB b o = nrB o b := by decide +kernel
theorem near_m (C : Cf) {k b : Nat} (hb : b < 12) (hs : spN C k < 12) : nrB b (spN C k) = nearS C k b := nr_sym b hb _ hs
theorem any_m (C : Cf) (S : St) {b i : Nat} (hb : b < 12) (hs : spN C i < 12) : (if anyB i (dryB C S b) = true then true else if nrB b (spN C i) = false then false else if (C 9 i).toInt64 ≤ S 0 (spN C i) then false else true) = anyB (i + 1) (dryB C S b) := by
  rw [near_m C hb hs]
  show _ = (anyB i (dryB C S b) || dryB C S b i)
  by_cases h1 : anyB i (dryB C S b) = true
  · rw [if_pos h1, h1, Bool.true_or]
  · rw [if_neg h1, Bool.eq_false_iff.mpr h1, Bool.false_or]
    show _ = (if nearS C i b = false then false else decide (S 0 (spN C i) < (C 9 i).toInt64))
    by_cases h2 : nearS C i b = false
    · rw [if_pos h2, if_pos h2]
    · rw [if_neg h2, if_neg h2]
      by_cases h3 : (C 9 i).toInt64 ≤ S 0 (spN C i)
      · rw [if_pos h3]; exact (decide_eq_false (Int64.not_lt.mpr h3)).symm
      · rw [if_neg h3]; exact (decide_eq_true (Int64.not_le.mp h3)).symm

/-! the reference's month -/
theorem wd_m {C : Cf} {S : St} {w : Nat} (hm : C 4 w = nI (muN C w) ∧ muN C w ≤ 1000) (hc : S 4 w = lN (scN S w) ∧ scN S w ≤ 100) : (C 4 w).toInt64 * (100 - S 4 w) / 100 = wd C S w := by
  have h1 : (C 4 w).toInt64 = lN (muN C w) := by
    have := hm.2
    rw [hm.1]
    exact nI_l (by omega)
  have h2 := n_mul hm.2 (show 100 - scN S w ≤ 100 by omega)
  rw [h1, hc.1]
  show lN _ * (lN 100 - lN _) / lN 100 = lN _
  rw [lN_sub hc.2, lN_mul, pk_lDiv (by omega) (by decide) (by decide)]
def fndM (S : St) (w : Nat) (x : Int64) : St := u2 (u2 S 7 w (S 7 w + x)) 8 w (if x ≤ 0 then S 8 w else if ¬ S 8 w = -1 then S 8 w else S 13 0)
def dM1 (S : St) (b w : Nat) (x : Int64) : St := fndM (giveS S b x) w (gone S b x)
def dM2 (S : St) (b w : Nat) (x hot : Int64) : St := u2 (u2 (u2 (u2 (dM1 S b w x) 12 1 (dM1 S b w x 12 1 + stm x hot)) 12 6 (dM1 S b w x 12 6 + (if hot ≤ 60 then 0 else stm x hot * (hot - 60) / 10))) 12 7 (dM1 S b w x 12 7 + x * hot)) 5 w x
def dM3 (S : St) (b w : Nat) (x hot : Int64) : St := if hot ≤ 160 then dM2 S b w x hot else if x ≤ 0 then dM2 S b w x hot else u2 (dM2 S b w x hot) 4 w (if dM2 S b w x hot 4 w + 1 + x / 500 < 100 then dM2 S b w x hot 4 w + 1 + x / 500 else 100)
def chgM (C : Cf) (b w : Nat) (x : Int64) (k : Nat) (S : St) : St := u2 S 11 (10 * k + w) (S 11 (10 * k + w) + (if nrB b (spN C k) = false then 0 else x))
theorem deg_5 {S : St} {w b : Nat} {x : Int64} : deg (u2 S 5 w x) b = deg S b := by
  unfold deg
  rw [u2_c _ _ _ (by decide), u2_c _ _ _ (by decide)]
theorem gone_5 {S : St} {w b : Nat} {x y : Int64} : gone (u2 S 5 w x) b y = gone S b y := by
  unfold gone
  rw [u2_c _ _ _ (by decide), u2_c _ _ _ (by decide)]
theorem give_5 {S : St} {w b : Nat} {x y : Int64} : giveS (u2 S 5 w x) b y = u2 (giveS S b y) 5 w x := by
  unfold giveS
  rw [deg_5, gone_5, u2_c _ _ _ (by decide), u2_c _ _ _ (by decide), u2_c _ _ _ (by decide), u2_sort _ _ _ _ _ (show 1 < 5 by decide), u2_sort _ _ _ _ _ (show 2 < 5 by decide), u2_sort _ _ _ _ _ (show 0 < 5 by decide)]
theorem find_5 {T : St} {w : Nat} {x g : Int64} : findS (u2 T 5 w x) w g = u2 (fndM T w g) 5 w x := by
  unfold findS fndM
  rw [u2_c _ _ _ (show ¬ 7 = 5 by decide), u2_c _ _ _ (show ¬ 8 = 5 by decide), u2_c _ _ _ (show ¬ 13 = 5 by decide), u2_sort _ _ _ _ _ (show 5 < 8 by decide), u2_sort _ _ _ _ _ (show 5 < 7 by decide)]
  by_cases h : g ≤ 0
  · rw [if_pos h, if_pos h, u2_eqv (c := 8)]
    rw [u2_c _ _ _ (by decide), u2_c _ _ _ (by decide)]
  · rw [if_neg h, if_neg h]
    by_cases h2 : ¬ T 8 w = -1
    · rw [if_pos h2, if_pos h2, u2_eqv (c := 8)]
      rw [u2_c _ _ _ (by decide), u2_c _ _ _ (by decide)]
    · rw [if_neg h2, if_neg h2]
theorem dr1_m {C : Cf} {S : St} {w : Nat} : dr1 C S w = u2 (dM1 S (plN C w) w (drW C S w)) 5 w (drW C S w) := by
  unfold dr1 dM1
  rw [give_5, gone_5, find_5]
theorem stm_m (x hot : Int64) : (if hot ≤ 60 then 0 else stm x hot * (hot - 60) / 10) = stm x hot * (if 0 < hot - 60 then hot - 60 else 0) / 10 := by
  have h60 : (60 : Int64).toInt = 60 := rfl
  have hz : (0 : Int64).toInt = 0 := rfl
  by_cases h : hot ≤ 60
  · have h1 : stm x hot = 0 := by
      unfold stm
      rw [z_le] at h
      exact if_pos (by rw [z_le]; have : (100 : Int64).toInt = 100 := rfl; omega)
    rw [if_pos h, h1, Int64.zero_mul]
    rfl
  · have hr := Int64.toInt_lt hot
    have h2 : 0 < hot - 60 := by
      rw [z_le] at h
      rw [z_lt, z_sub (by omega) (by omega)]
      omega
    rw [if_neg h, if_pos h2]
theorem dr2_m {C : Cf} {S : St} {w : Nat} {hot : Int64} : dM2 S (plN C w) w (drW C S w) hot = dr2 C S w (drW C S w) hot := by
  unfold dM2 dr2
  rw [stm_m, u2_sort _ _ _ _ _ (show 5 < 12 by decide), u2_sort _ _ _ _ _ (show 5 < 12 by decide), u2_sort _ _ _ _ _ (show 5 < 12 by decide), dr1_m, u2_c _ _ _ (show ¬ 12 = 5 by decide)]
theorem min_m (v : Int64) : (if v < 100 then v else 100) = if 100 < v then 100 else v := by
  by_cases h : v < 100
  · rw [if_pos h, if_neg (fun z => by rw [z_lt] at h z; omega)]
  · rw [if_neg h]
    by_cases h2 : 100 < v
    · rw [if_pos h2]
    · rw [if_neg h2]
      rw [z_lt] at h h2
      rw [z_eq]
      omega
theorem dr3_m {C : Cf} {S : St} {w : Nat} {hot : Int64} : dM3 S (plN C w) w (drW C S w) hot = dr3 C S w (drW C S w) hot := by
  unfold dM3 dr3
  rw [dr2_m, min_m]
  rfl
theorem chg_m {C : Cf} {b w k : Nat} {x : Int64} {S : St} (hb : b < 12) (hs : spN C k < 12) : chgM C b w x k S = chgS C b w x k S := by
  unfold chgM chgS
  rw [near_m C hb hs]
  by_cases h : nearS C k b = false
  · rw [if_pos h, if_pos h, Int64.add_zero, u2_self]
  · rw [if_neg h, if_neg h]
theorem draw_m {C : Cf} {N : Nat → Nat} {S : St} {w : Nat} (hC : Cok C N) (hb : plN C w < 12) : itr (chgM C (plN C w) w (drW C S w)) (dM3 S (plN C w) w (drW C S w) (deg S (plN C w))) (N 2) = drawS C N S w := by
  unfold drawS
  rw [dr3_m]
  exact itr_congr _ _ (fun i hi T => chg_m hb (hC.sp hi).2)

theorem q_30 {S : St} (h : S 14 0 = lN (qN S) ∧ qN S ≤ 900000) : (60 ≤ S 14 0) ↔ 60 ≤ qN S := by
  rw [h.1]
  exact pk_lLE (a := 60) (by decide) (by have := h.2; omega)
def sqS (S : St) (b : Nat) : St := u2 (u2 S 14 0 (S 14 0 + 1)) 3 b (S 3 b / 2)
theorem sq_m (S : St) (b : Nat) : u2 (if S 3 b ≤ 3000 then S else sqS S b) 3 b ((if S 3 b ≤ 3000 then S else sqS S b) 3 b - (if S 3 b ≤ 3000 then S else sqS S b) 3 b / 10) = shS b S := by
  unfold shS sqS
  by_cases h : S 3 b ≤ 3000
  · rw [if_pos h, if_pos h, if_pos h]
  · rw [if_neg h, if_neg h, if_neg h, u2_same, u2_twice]

/-! the reference's month -/
def Bok (N : Nat → Nat) (S : St) : Prop := ∀ w, w < N 0 → S 6 w = 0 ∨ S 6 w = 1
/-! what the reference tells -/
def tolM (S : St) (b k : Nat) : Int64 := if ¬ nI k = 0 then (if ¬ k = 1 then (if ¬ k = 2 then (if ¬ k = 3 then (if ¬ k = 4 then (nI (lig S b)).toInt64 else S 3 b) else S 2 b) else S 1 b) else deg S b) else S 0 b
/-! the reference's calls: raw numbers in, a code of what is thrown -/
def nN (v : Int32) : Nat := v.toNatClampNeg
theorem inB_n {v : Int32} {n : Nat} (hn : n < 1000) (h : inB v (nI 0) (nI n) = true) : nN v < n + 1 ∧ v = nI (nN v) := by
  unfold inB at h
  by_cases h1 : v < nI 0
  · rw [if_pos h1] at h
    exact absurd h (by decide)
  · rw [if_neg h1] at h
    by_cases h2 : nI n < v
    · rw [if_pos h2] at h
      exact absurd h (by decide)
    · obtain ⟨j, hj, e, _, ej, _⟩ := pk_mu (x := v) (L := n + 1) h1 (fun z => h2 (by
        rw [Int32.lt_iff_toInt_lt, nI_toInt (by omega)]
        rw [Int32.le_iff_toInt_le, nI_toInt (by omega)] at z
        omega)) (by omega)
      unfold nN
      rw [ej]
      exact ⟨hj, e⟩
def cB2 (v q : Int32) (n : Nat) : Nat := if inB v (nI 0) (nI 11) = true then (if inB q (nI 0) (nI n) = true then 0 else 2) else 1
theorem cB2_0 {v q : Int32} {n : Nat} (h : cB2 v q n = 0) : inB v (nI 0) (nI 11) = true ∧ inB q (nI 0) (nI n) = true := by
  unfold cB2 at h
  by_cases h1 : inB v (nI 0) (nI 11) = true
  · rw [if_pos h1] at h
    by_cases h2 : inB q (nI 0) (nI n) = true
    · exact ⟨h1, h2⟩
    · rw [if_neg h2] at h
      exact absurd h (by decide)
  · rw [if_neg h1] at h
    exact absurd h (by decide)
def cR1 (v lo hi : Int32) : Nat := if inB v lo hi = false then 1 else 0
theorem cR1_0 {v lo hi : Int32} (h : cR1 v lo hi = 0) : inB v lo hi = true := by
  unfold cR1 at h
  by_cases h1 : inB v lo hi = false
  · rw [if_pos h1] at h
    exact absurd h (by decide)
  · simpa using h1
def cU2 (N1 : Nat) (v q : Int32) : Nat := if inB v (nI 0) (nI 100) = false then 1 else if inB q (nI 1) (nI 50) = true then (if ¬ N1 = 6 then 0 else 2) else 1

theorem cU2_0 {N1 : Nat} {v q : Int32} (h : cU2 N1 v q = 0) : inB v (nI 0) (nI 100) = true ∧ inB q (nI 1) (nI 50) = true ∧ ¬ N1 = 6 := by
  unfold cU2 at h
  by_cases h1 : inB v (nI 0) (nI 100) = false
  · rw [if_pos h1] at h
    exact absurd h (by decide)
  · rw [if_neg h1] at h
    by_cases h2 : inB q (nI 1) (nI 50) = true
    · rw [if_pos h2] at h
      by_cases h3 : ¬ N1 = 6
      · exact ⟨by simpa using h1, h2, h3⟩
      · rw [if_neg h3] at h
        exact absurd h (by decide)
    · rw [if_neg h2] at h
      exact absurd h (by decide)

theorem inB_m {v : Int32} {n : Nat} (hn : n ≤ 100) (h : inB v (nI 0) (nI n - nI 1) = true) : nN v < n ∧ v = nI (nN v) := by
  rcases Nat.eq_zero_or_pos n with e | e
  · subst e
    unfold inB at h
    by_cases h1 : v < nI 0
    · rw [if_pos h1] at h
      exact absurd h (by decide)
    · rw [if_neg h1, if_pos (by
        rw [Int32.lt_iff_toInt_lt] at h1 ⊢
        have e0 : (nI 0).toInt = 0 := by decide
        have e1 : (nI 0 - nI 1).toInt = -1 := by decide
        omega)] at h
      exact absurd h (by decide)
  · rw [pk_sub (by omega)] at h
    have := inB_n (n := n - 1) (by omega) h
    exact ⟨by omega, this.2⟩
/-- a number of a list, and a second number in its bounds -/
def cI2 (n : Nat) (v q lo hi : Int32) : Nat := if inB v (nI 0) (nI n - nI 1) = true then (if inB q lo hi = true then 0 else 2) else 1
theorem cI2_0 {n : Nat} {v q lo hi : Int32} (h : cI2 n v q lo hi = 0) : inB v (nI 0) (nI n - nI 1) = true ∧ inB q lo hi = true := by
  unfold cI2 at h
  by_cases h1 : inB v (nI 0) (nI n - nI 1) = true
  · rw [if_pos h1] at h
    by_cases h2 : inB q lo hi = true
    · exact ⟨h1, h2⟩
    · rw [if_neg h2] at h
      exact absurd h (by decide)
  · rw [if_neg h1] at h
    exact absurd h (by decide)

def cW1 (C : Cf) (n : Nat) (v : Int32) : Nat := if inB v (nI 0) (nI n - nI 1) = true then (if C 3 (nN v) = 0 then 0 else 2) else 1
theorem cW1_0 {C : Cf} {n : Nat} {v : Int32} (h : cW1 C n v = 0) : inB v (nI 0) (nI n - nI 1) = true ∧ C 3 (nN v) = 0 := by
  unfold cW1 at h
  by_cases h1 : inB v (nI 0) (nI n - nI 1) = true
  · rw [if_pos h1] at h
    by_cases h2 : C 3 (nN v) = 0
    · exact ⟨h1, h2⟩
    · rw [if_neg h2] at h
      exact absurd h (by decide)
  · rw [if_neg h1] at h
    exact absurd h (by decide)
def cT2 (S : St) (v q : Int32) : Nat := if inB v (nI 0) (nI 11) = true then (if inB q (nI 1) (nI 100000) = true then (if ¬ S 0 (nN v) = 0 then 0 else 3) else 2) else 1
def cS3 (n : Nat) (v q r : Int32) : Nat := if inB v (nI 0) (nI 11) = true then (if inB q (nI 0) (nI 50000) = false then 2 else if inB r (nI 0) (nI 50000) = true then (if ¬ n = 4 then 0 else 3) else 2) else 1
def cL1 (n : Nat) (v : Int32) : Nat := if inB v (nI 0) (nI 11) = true then (if ¬ n = 10 then 0 else 2) else 1
theorem cL1_0 {n : Nat} {v : Int32} (h : cL1 n v = 0) : inB v (nI 0) (nI 11) = true ∧ ¬ n = 10 := by
  unfold cL1 at h
  by_cases h1 : inB v (nI 0) (nI 11) = true
  · rw [if_pos h1] at h
    by_cases h4 : ¬ n = 10
    · exact ⟨h1, h4⟩
    · rw [if_neg h4] at h
      exact absurd h (by decide)
  · rw [if_neg h1] at h
    exact absurd h (by decide)

def cB3 (S : St) (v q r : Int32) : Nat := if inB v (nI 0) (nI 11) = true then (if inB q (nI 0) (nI 50000) = false then 2 else if inB r (nI 0) (nI 350) = true then (if S 13 0 ≤ 0 then 0 else 3) else 2) else 1
def cO2 (C : Cf) (n : Nat) (v q : Int32) : Nat := if inB v (nI 0) (nI n - nI 1) = true then (if C 3 (nN v) = 0 then (if inB q (nI 0) (nI 1000) = true then 0 else 2) else (if inB q (nI 0) (nI 10) = true then 0 else 2)) else 1
/-! what the reference tells by number -/
def cnM (N : Nat → Nat) (S : St) (v : Int32) : Int32 := if ¬ v = 0 then (if ¬ v = nI 1 then (if ¬ v = nI 2 then (if ¬ v = nI 3 then (S 14 0).toInt32 else nI (N 1)) else nI (N 2)) else nI (N 0)) else (S 13 0).toInt32
def twM (C : Cf) (S : St) (v q : Int32) : Int64 := if ¬ q = 0 then (if ¬ q = nI 1 then (if ¬ q = nI 2 then (if ¬ q = nI 3 then (if ¬ q = nI 4 then (if ¬ q = nI 5 then S 8 (nN v) else S 7 (nN v)) else S 6 (nN v)) else S 5 (nN v)) else S 4 (nN v)) else (C 4 (nN v)).toInt64) else (C 2 (nN v)).toInt64

def tsM (C : Cf) (N : Nat → Nat) (S : St) (v q : Int32) : Int64 := if ¬ q = 0 then (if ¬ q = nI 1 then (if ¬ q = nI 2 then (if ¬ q = nI 3 then (blm S (nN v) (N 0)).1.toInt64 else S 10 (nN v)) else (C 9 (nN v)).toInt64) else S 9 (nN v)) else (C 7 (nN v)).toInt64

def kpM (S : St) : Nat := if 60 ≤ S 14 0 then 60 else qN S
theorem kp_m {S : St} (h : S 14 0 = lN (qN S) ∧ qN S ≤ 900000) : kpM S ≤ 60 := by
  unfold kpM
  by_cases h6 : 60 ≤ S 14 0
  · rw [if_pos h6]
    decide
  · rw [if_neg h6]
    exact Nat.le_of_lt (Nat.lt_of_not_le (fun z => h6 ((q_30 h).mpr z)))

theorem inB_1 {v : Int32} {n : Nat} (h : inB v (nI 1) (nI n) = true) : inB v (nI 0) (nI n) = true := by
  unfold inB at h ⊢
  by_cases h1 : v < nI 1
  · rw [if_pos h1] at h
    exact absurd h (by decide)
  · rw [if_neg h1] at h
    rw [if_neg (fun z => h1 (Int32.lt_iff_toInt_lt.mpr (by
      have z2 := Int32.lt_iff_toInt_lt.mp z
      have e0 : (nI 0).toInt = 0 := by decide
      have e1 : (nI 1).toInt = 1 := by decide
      omega)))]
    exact h
def cK3 (v q r : Int32) : Nat := if inB v (nI 0) (nI 11) = false then 1 else if inB q (nI 0) (nI 11) = true then (if nbr (nN v) (nN q) = false then 2 else if inB r (nI 0) (nI 100) = true then 0 else 2) else 1
theorem cK3_0 {v q r : Int32} (h : cK3 v q r = 0) : inB v (nI 0) (nI 11) = true ∧ inB q (nI 0) (nI 11) = true ∧ nbr (nN v) (nN q) = true ∧ inB r (nI 0) (nI 100) = true := by
  unfold cK3 at h
  by_cases h1 : inB v (nI 0) (nI 11) = false
  · rw [if_pos h1] at h
    exact absurd h (by decide)
  · rw [if_neg h1] at h
    by_cases h2 : inB q (nI 0) (nI 11) = true
    · rw [if_pos h2] at h
      by_cases h3 : nbr (nN v) (nN q) = false
      · rw [if_pos h3] at h
        exact absurd h (by decide)
      · rw [if_neg h3] at h
        by_cases h4 : inB r (nI 0) (nI 100) = true
        · exact ⟨by simpa using h1, h2, by simpa using h3, h4⟩
        · rw [if_neg h4] at h
          exact absurd h (by decide)
    · rw [if_neg h2] at h
      exact absurd h (by decide)
def loK (b o : Nat) : Nat := if o ≤ b then o else b
def bsK (b o : Nat) : Bool := if rgt b o = true then true else if rgt o b = false then false else true
def rdK (C : Cf) (b o : Nat) : Int32 := if bsK b o = false then C 1 (loK b o) else C 0 (loK b o)
def ckC (C : Cf) (b o : Nat) (r : Int32) : Cf := c2 (c2 C 0 (loK b o) (if bsK b o = false then C 0 (loK b o) else r)) 1 (loK b o) (if bsK b o = false then r else c2 C 0 (loK b o) (if bsK b o = false then C 0 (loK b o) else r) 1 (loK b o))

def wtN (S : St) (n : Nat) : Int64 := itr (fun b x => x + S 0 b) 0 n
def smM (S : St) (v : Int32) : Int64 := if v = 0 then wtN S 12 else S 12 (nN v)
/-- months by number -/
def mnS (C : Cf) (N : Nat → Nat) (S : St) (n : Nat) : St := itr (fun _ T => monS C N T) S n
def mnQ (C : Cf) (N : Nat → Nat) (S : St) (Qk : Nat → Int64) (n : Nat) : Nat → Int64 := itr (fun i Q => monQ C N (mnS C N S i) Q) Qk n
def mnZ (C : Cf) (N : Nat → Nat) (S Z : St) (n : Nat) : St := itr (fun i Q => monZ C N (mnS C N S i) Q) Z n
theorem itr_sc {α : Type} (f : Nat → α → α) (a : α) (n : Nat) : itr f a (n + 1) = f n (itr f a n) := rfl
theorem mnS_s (C : Cf) (N : Nat → Nat) (S : St) (n : Nat) : mnS C N S (n + 1) = monS C N (mnS C N S n) := rfl
theorem mnQ_s (C : Cf) (N : Nat → Nat) (S : St) (Qk : Nat → Int64) (n : Nat) : mnQ C N S Qk (n + 1) = monQ C N (mnS C N S n) (mnQ C N S Qk n) := by
  unfold mnQ
  exact itr_sc (fun i Q => monQ C N (mnS C N S i) Q) Qk n
theorem mnZ_s (C : Cf) (N : Nat → Nat) (S Z : St) (n : Nat) : mnZ C N S Z (n + 1) = monZ C N (mnS C N S n) (mnZ C N S Z n) := by
  unfold mnZ
  exact itr_sc (fun i Q => monZ C N (mnS C N S i) Q) Z n
theorem mnS_0 (C : Cf) (N : Nat → Nat) (S : St) : mnS C N S 0 = S := rfl
theorem mnQ_0 (C : Cf) (N : Nat → Nat) (S : St) (Qk : Nat → Int64) : mnQ C N S Qk 0 = Qk := rfl
theorem mnZ_0 (C : Cf) (N : Nat → Nat) (S Z : St) : mnZ C N S Z 0 = Z := rfl
/-- a state from which a month can pass -/
def MonOk (C : Cf) (N : Nat → Nat) (S : St) : Prop := ∃ k : Int, Wk k S ∧ 0 ≤ k ∧ k + 200000000 ≤ 1099511627776 ∧ Wel N S ∧ (S 13 0).toInt ≤ 900 ∧ (S 14 0 = lN (qN S) ∧ qN S ≤ 800000) ∧ Bok N S
theorem MonOk.wok {C : Cf} {N : Nat → Nat} {S : St} (h : MonOk C N S) : Wok S := by
  obtain ⟨k, h1, h2, h3, -⟩ := h
  exact h1.ok (by omega)
def cP2 (S : St) (v : Int32) : Nat := if inB v (nI 1) (nI 24) = true then (if S 13 0 + v.toInt64 ≤ 600 then 0 else 2) else 1
theorem cP2_0 {S : St} {v : Int32} (h : cP2 S v = 0) : inB v (nI 1) (nI 24) = true ∧ S 13 0 + v.toInt64 ≤ 600 := by
  unfold cP2 at h
  by_cases h1 : inB v (nI 1) (nI 24) = true
  · rw [if_pos h1] at h
    by_cases h2 : S 13 0 + v.toInt64 ≤ 600
    · exact ⟨h1, h2⟩
    · rw [if_neg h2] at h
      exact absurd h (by decide)
  · rw [if_neg h1] at h
    exact absurd h (by decide)

def cD3 (v q r : Int32) : Nat := if inB q (nI 0) (nI 11) = true then (if inB v (nI 0) (nI 24) = false then 2 else if inB r (nI 0) (nI 5) = true then 0 else 2) else 1
theorem cD3_0 {v q r : Int32} (h : cD3 v q r = 0) : inB q (nI 0) (nI 11) = true ∧ inB v (nI 0) (nI 24) = true ∧ inB r (nI 0) (nI 5) = true := by
  unfold cD3 at h
  by_cases h1 : inB q (nI 0) (nI 11) = true
  · rw [if_pos h1] at h
    by_cases h2 : inB v (nI 0) (nI 24) = false
    · rw [if_pos h2] at h
      exact absurd h (by decide)
    · rw [if_neg h2] at h
      by_cases h3 : inB r (nI 0) (nI 5) = true
      · exact ⟨h1, by simpa using h2, h3⟩
      · rw [if_neg h3] at h
        exact absurd h (by decide)
  · rw [if_neg h1] at h
    exact absurd h (by decide)
