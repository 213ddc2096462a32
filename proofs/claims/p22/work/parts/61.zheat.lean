def Shr (S : St) : Prop := 0 ≤ (S 12 6).toInt ∧ (S 12 6).toInt * 16 ≤ (S 12 7).toInt
theorem dv_gen {x y : Int64} (hx : 0 ≤ x.toInt) (hy : 0 < y.toInt) : (x / y).toInt = x.toInt / y.toInt := by
  have hb := y.toInt_lt
  have e : y = lN y.toInt.toNat := Int64.toInt_inj.mp (by rw [pk_lT (by omega)]; omega)
  rw [e, dv_ok hx (by omega) (by omega), ← e]
  have : ((y.toInt.toNat : Nat) : Int) = y.toInt := by omega
  rw [this]
def ht (S : St) : Int := (S 1 0).toInt + (S 1 1).toInt + (S 1 2).toInt + (S 1 3).toInt + (S 1 4).toInt + (S 1 5).toInt + (S 1 6).toInt + (S 1 7).toInt + (S 1 8).toInt + (S 1 9).toInt + (S 1 10).toInt + (S 1 11).toInt
def Hn (K : Int) (S : St) : Prop := (∀ b, b < 12 → 0 ≤ (S 1 b).toInt) ∧ ht S ≤ K
theorem b12 {b : Nat} (h : b < 12) : b = 0 ∨ b = 1 ∨ b = 2 ∨ b = 3 ∨ b = 4 ∨ b = 5 ∨ b = 6 ∨ b = 7 ∨ b = 8 ∨ b = 9 ∨ b = 10 ∨ b = 11 := by omega
theorem ht_up (S : St) {b : Nat} (hb : b < 12) (v : Int64) : ht (u2 S 1 b v) = ht S - (S 1 b).toInt + v.toInt := by
  unfold ht
  simp only [u2_ap]
  rcases b12 hb with h | h | h | h | h | h | h | h | h | h | h | h <;> subst h <;> simp <;> omega
theorem ht_row {S T : St} (e : T 1 = S 1) : ht T = ht S := by
  unfold ht
  rw [e]
theorem Hn.row {K : Int} {S T : St} (h : Hn K S) (e : T 1 = S 1) : Hn K T := ⟨fun b hb => by rw [e]; exact h.1 b hb, by rw [ht_row e]; exact h.2⟩
theorem Hn.mono {K L : Int} {S : St} (h : Hn K S) (hk : K ≤ L) : Hn L S := ⟨h.1, Int.le_trans h.2 hk⟩
theorem Hn.le {K : Int} {S : St} (h : Hn K S) {b : Nat} (hb : b < 12) : (S 1 b).toInt ≤ K := by
  have h1 := h.2
  have g := h.1
  have g0 := g 0 (by decide)
  have g1 := g 1 (by decide)
  have g2 := g 2 (by decide)
  have g3 := g 3 (by decide)
  have g4 := g 4 (by decide)
  have g5 := g 5 (by decide)
  have g6 := g 6 (by decide)
  have g7 := g 7 (by decide)
  have g8 := g 8 (by decide)
  have g9 := g 9 (by decide)
  have g10 := g 10 (by decide)
  have g11 := g 11 (by decide)
  unfold ht at h1
  rcases b12 hb with h | h | h | h | h | h | h | h | h | h | h | h <;> subst h <;> omega
theorem Hn.up {K L : Int} {S : St} (h : Hn K S) {b : Nat} (hb : b < 12) {v : Int64} (h0 : 0 ≤ v.toInt) (h1 : K - (S 1 b).toInt + v.toInt ≤ L) : Hn L (u2 S 1 b v) := by
  refine ⟨fun j hj => ?_, ?_⟩
  · rw [u2_ap]
    split
    · exact h0
    · exact h.1 j hj
  · rw [ht_up S hb]
    have := h.2
    omega
theorem deg_ok {S : St} {b : Nat} (hh : 0 ≤ (S 1 b).toInt) (hw : 0 ≤ (S 0 b).toInt ∧ (S 0 b).toInt ≤ 1099511627776) : 0 ≤ (deg S b).toInt ∧ (deg S b).toInt * ((S 0 b).toInt + 20000) ≤ (S 1 b).toInt := by
  have e2 : (20000 : Int64).toInt = 20000 := by decide
  have ew : (S 0 b + 20000).toInt = (S 0 b).toInt + 20000 := by rw [z_add (by omega) (by omega), e2]
  unfold deg
  have e : (S 1 b / (S 0 b + 20000)).toInt = (S 1 b).toInt / (S 0 b + 20000).toInt := dv_gen hh (by omega)
  rw [e, ew]
  exact ⟨Int.ediv_nonneg hh (by omega), Int.ediv_mul_le _ (by omega)⟩
theorem Hn.give {K : Int} {S : St} (h : Hn K S) (hW : Wok S) {b : Nat} (hb : b < 12) {m : Int64} (hm : 0 ≤ m.toInt ∧ m.toInt ≤ (S 0 b).toInt) : Hn K (giveS S b m) := by
  have hw := hW b hb
  have hd := deg_ok (h.1 b hb) hw
  have p0 := Int.mul_nonneg hm.1 hd.1
  have p1 := Int.mul_le_mul_of_nonneg_right (show m.toInt ≤ (S 0 b).toInt + 20000 by omega) hd.1
  rw [Int.mul_comm ((S 0 b).toInt + 20000)] at p1
  have hh := (S 1 b).toInt_lt
  have e1 : (m * deg S b).toInt = m.toInt * (deg S b).toInt := z_mul (by omega) (by omega)
  have e2 : (S 1 b - m * deg S b).toInt = (S 1 b).toInt - m.toInt * (deg S b).toInt := by rw [z_sub (by rw [e1]; omega) (by rw [e1]; omega), e1]
  refine (h.up (L := K) hb (v := S 1 b - m * deg S b) (by rw [e2]; omega) (by rw [e2]; omega)).row ?_
  unfold giveS
  rw [u2_c _ _ _ (by decide), u2_c _ _ _ (by decide)]
theorem Hn.take {K M : Int} {S : St} (h : Hn K S) {b : Nat} (hb : b < 12) {m d : Int64} (hm : 0 ≤ m.toInt) (hd : 0 ≤ d.toInt) (hmd : m.toInt * d.toInt ≤ M) (hK : K + M < 9223372036854775808) : Hn (K + M) (takeS S b m d) := by
  have p0 := Int.mul_nonneg hm hd
  have hh := h.1 b hb
  have hl := h.le hb
  have e1 : (m * d).toInt = m.toInt * d.toInt := z_mul (by omega) (by omega)
  have e2 : (S 1 b + m * d).toInt = (S 1 b).toInt + m.toInt * d.toInt := by rw [z_add (by rw [e1]; omega) (by rw [e1]; omega), e1]
  have e : takeS S b m d 1 = u2 S 1 b (S 1 b + m * d) 1 := by
    unfold takeS
    funext j
    simp only [u2_ap]
    simp
  exact (h.up (L := K + M) hb (v := S 1 b + m * d) (by rw [e2]; omega) (by rw [e2]; omega)).row e
theorem Hn.warm {K : Int} {S : St} (h : Hn K S) (hW : Wok S) {b : Nat} (hb : b < 12) (hK : K + 15000 < 9223372036854775808) : Hn (K + 15000) (warmS S b) := by
  have hd := (deg_ok (h.1 b hb) (hW b hb)).1
  have hh := h.1 b hb
  have hl := h.le hb
  unfold warmS
  split
  · exact h.mono (by omega)
  · rename_i hn
    rw [z_le] at hn
    have e3 : (300 : Int64).toInt = 300 := by decide
    have e5 : (50 : Int64).toInt = 50 := by decide
    rw [e3] at hn
    have e1 : (300 - deg S b).toInt = 300 - (deg S b).toInt := by rw [z_sub (by omega) (by omega), e3]
    have e2 : (50 * (300 - deg S b)).toInt = 50 * (300 - (deg S b).toInt) := by rw [z_mul (by rw [e1, e5]; omega) (by rw [e1, e5]; omega), e1, e5]
    have e4 : (S 1 b + 50 * (300 - deg S b)).toInt = (S 1 b).toInt + 50 * (300 - (deg S b).toInt) := by rw [z_add (by rw [e2]; omega) (by rw [e2]; omega), e2]
    exact h.up hb (by rw [e4]; omega) (by rw [e4]; omega)
/-- the heat while the cracks flow: H what was there before, u how many flows a block has had -/
def HI (H : Nat → Int) (K : Int) (S : St) (u : Nat → Nat) : Prop := (∀ j, j < 12 → 10 * H j - H j * (u j : Int) ≤ 10 * (S 1 j).toInt) ∧ ht S ≤ K
theorem HI.nn {H : Nat → Int} {K : Int} {S : St} {u : Nat → Nat} (h : HI H K S u) (hH : ∀ j, j < 12 → 0 ≤ H j) (hu : ∀ j, j < 12 → u j ≤ 10) : Hn K S := by
  refine ⟨fun j hj => ?_, h.2⟩
  have h1 := h.1 j hj
  have h2 := Int.mul_le_mul_of_nonneg_left (show (u j : Int) ≤ 10 by have := hu j hj; omega) (hH j hj)
  omega
theorem HI.up {H : Nat → Int} {K : Int} {S : St} {u : Nat → Nat} (h : HI H K S u) (hH : ∀ j, j < 12 → 0 ≤ H j) (a b : Nat) : HI H K S (ug a b u) := by
  refine ⟨fun j hj => ?_, h.2⟩
  have h1 := h.1 j hj
  have h2 := hH j hj
  unfold ug
  split
  · rw [mulS]
    omega
  · exact h1
theorem flow_1 {S Z : St} {a b : Nat} {wd : Int32} (hab : ¬ b = a) : flowS S Z a b wd 1 = u2 (u2 S 1 a (S 1 a - (Z 0 a - Z 0 b) * wd.toInt64 / 1000 * Z 1 a)) 1 b (S 1 b + (Z 0 a - Z 0 b) * wd.toInt64 / 1000 * Z 1 a) 1 := by
  unfold flowS takeS
  funext j
  simp only [u2_ap]
  by_cases hj : j = b
  · subst hj
    simp [hab]
  · simp [hj]
theorem HI.fl {H : Nat → Int} {K k : Int} {Z S : St} {u : Nat → Nat} {a b : Nat} {wd : Int32} (h : HI H K S u) (hH : ∀ j, j < 12 → 0 ≤ H j) (hHd : ∀ j, j < 12 → 0 ≤ (Z 1 j).toInt ∧ (Z 1 j).toInt * ((Z 0 j).toInt + 20000) ≤ H j) (hZ : ∀ j, j < 12 → 0 ≤ (Z 0 j).toInt ∧ (Z 0 j).toInt ≤ k) (hk : k ≤ 1099511627776) (hK : K < 4611686018427387904) (hHK : ∀ j, j < 12 → H j ≤ K) (ha : a < 12) (hb : b < 12) (hab : ¬ b = a) (hw : 0 ≤ wd.toInt ∧ wd.toInt ≤ 100) (hu : ∀ j, j < 12 → u j ≤ 4) (hz : (Z 0 b).toInt ≤ (Z 0 a).toInt) : HI H K (flowS S Z a b wd) (ug a b u) := by
  obtain ⟨f, hf⟩ : ∃ f, f = (Z 0 a - Z 0 b) * wd.toInt64 / 1000 := ⟨_, rfl⟩
  have hfl := flow_f (hZ a ha) (hZ b hb) hk hw hz
  rw [← hf] at hfl
  have hd := hHd a ha
  have hn := h.nn hH (fun j hj => Nat.le_trans (hu j hj) (by decide))
  have p0 := Int.mul_nonneg hfl.1 hd.1
  have zb := hZ b hb
  have p1 := Int.mul_le_mul_of_nonneg_right (show 10 * f.toInt ≤ (Z 0 a).toInt + 20000 by omega) hd.1
  rw [Int.mul_comm ((Z 0 a).toInt + 20000), Int.mul_assoc] at p1
  have hKa := hHK a ha
  have e1 : (f * Z 1 a).toInt = f.toInt * (Z 1 a).toInt := z_mul (by omega) (by omega)
  have na := hn.1 a ha
  have nb := hn.1 b hb
  have la := hn.le ha
  have lb := hn.le hb
  have ia := h.1 a ha
  have ub := Int.mul_le_mul_of_nonneg_left (show (u a : Int) ≤ 4 by have := hu a ha; omega) (hH a ha)
  have ea : (S 1 a - f * Z 1 a).toInt = (S 1 a).toInt - f.toInt * (Z 1 a).toInt := by rw [z_sub (by rw [e1]; omega) (by rw [e1]; omega), e1]
  have eb : (S 1 b + f * Z 1 a).toInt = (S 1 b).toInt + f.toInt * (Z 1 a).toInt := by rw [z_add (by rw [e1]; omega) (by rw [e1]; omega), e1]
  have e := flow_1 (S := S) (Z := Z) (wd := wd) hab
  rw [← hf] at e
  refine ⟨fun j hj => ?_, ?_⟩
  · rw [e, u2_ap, u2_ap]
    have ij := h.1 j hj
    have hj0 := hH j hj
    by_cases hjb : j = b
    · rw [show ug a b u j = u j + 1 from if_pos (Or.inr hjb), mulS, if_pos ⟨rfl, hjb⟩, eb]
      rw [hjb] at ij hj0 ⊢
      omega
    · rw [if_neg (c := 1 = 1 ∧ j = b) (fun z => hjb z.2)]
      by_cases hja : j = a
      · rw [show ug a b u j = u j + 1 from if_pos (Or.inl hja), mulS, if_pos ⟨rfl, hja⟩, ea]
        rw [hja] at ij hj0 ⊢
        omega
      · rw [show ug a b u j = u j from if_neg (by omega), if_neg (c := 1 = 1 ∧ j = a) (fun z => hja z.2)]
        exact ij
  · rw [ht_row e, ht_up _ hb, ht_up _ ha, u2_ap, if_neg (fun z => hab z.2), ea, eb]
    have := h.2
    omega
/-- what the cracks' flow needs of the rows ahead of it -/
def Ah (H : Nat → Int) (K k : Int) (Z : St) : Prop := (∀ j, j < 12 → 0 ≤ H j) ∧ (∀ j, j < 12 → 0 ≤ (Z 1 j).toInt ∧ (Z 1 j).toInt * ((Z 0 j).toInt + 20000) ≤ H j) ∧ (∀ j, j < 12 → 0 ≤ (Z 0 j).toInt ∧ (Z 0 j).toInt ≤ k) ∧ k ≤ 1099511627776 ∧ K < 4611686018427387904 ∧ (∀ j, j < 12 → H j ≤ K)
theorem HI.fb {H : Nat → Int} {K k : Int} {Z S : St} {u : Nat → Nat} {a b : Nat} {wd : Int32} (h : HI H K S u) (hA : Ah H K k Z) (ha : a < 12) (hb : b < 12) (hab : ¬ b = a) (hw : 0 ≤ wd.toInt ∧ wd.toInt ≤ 100) (hu : ∀ j, j < 12 → u j ≤ 4) : HI H K (fbS S Z a b wd) (ug a b u) := by
  obtain ⟨hH, hHd, hZ, hk, hK, hHK⟩ := hA
  unfold fbS
  by_cases h1 : Z 0 a ≤ Z 0 b
  · rw [if_pos h1]
    by_cases h2 : Z 0 b ≤ Z 0 a
    · rw [if_pos h2]
      exact h.up hH a b
    · rw [if_neg h2, ug_sym]
      rw [z_le] at h1
      exact h.fl hH hHd hZ hk hK hHK hb ha (fun e => hab e.symm) hw hu h1
  · rw [if_neg h1]
    rw [z_le] at h1
    exact h.fl hH hHd hZ hk hK hHK ha hb hab hw hu (by omega)
theorem HI.go {C : Cf} {H : Nat → Int} {K k : Int} {Z S : St} (hX : Xok C) (hA : Ah H K k Z) (hI : HI H K S (fun _ => 0)) : ∀ n, n ≤ 12 → HI H K (itr (crS C Z) S n) (itr cU (fun _ => 0) n)
  | 0, _ => hI
  | n + 1, hn => by
    have ih := HI.go hX hA hI n (by omega)
    have e1 : itr (crS C Z) S (n + 1) = crS C Z n (itr (crS C Z) S n) := rfl
    have e2 : itr cU (fun _ => 0) (n + 1) = cU n (itr cU (fun _ => 0) n) := rfl
    have l1 := cU_le n (by omega)
    have l2 := cX_le n (by omega)
    rw [e1, e2]
    generalize itr (crS C Z) S n = T at ih
    generalize itr cU (fun _ => 0) n = u at ih l1 l2
    have hx := hX n (by omega)
    have s1 : HI H K (if 12 ≤ n + 1 then T else if nbr n (n + 1) = false then T else fbS T Z n (n + 1) (C 0 n)) (cX n u) := by
      unfold cX
      by_cases h : 12 ≤ n + 1
      · rw [if_pos h, if_pos h]
        exact ih
      · rw [if_neg h, if_neg h]
        by_cases h2 : nbr n (n + 1) = false
        · rw [if_pos h2, if_pos h2]
          exact ih
        · rw [if_neg h2, if_neg h2]
          exact ih.fb hA (by omega) (by omega) (by omega) hx.1 l1
    unfold crS cU
    by_cases h : 12 ≤ n + 4
    · rw [if_pos h, if_pos h]
      exact s1
    · rw [if_neg h, if_neg h]
      exact s1.fb hA (by omega) (by omega) (by omega) hx.2 l2
theorem Hn.crk {C : Cf} {S : St} {K k : Int} (h : Hn K S) (hX : Xok C) (hk : k ≤ 1099511627776) (hW : Wk k S) (hK : K < 4611686018427387904) : Hn K (crk C S) := by
  show Hn K (itr (crS C (fun c b => if c = 0 then S 0 b else if c = 1 then deg S b else S 2 b)) S 12)
  have hA : Ah (fun j => (S 1 j).toInt) K k (fun c b => if c = 0 then S 0 b else if c = 1 then deg S b else S 2 b) :=
    ⟨h.1, fun j hj => deg_ok (h.1 j hj) (hW.ok hk j hj), hW, hk, hK, fun j hj => h.le hj⟩
  have hI : HI (fun j => (S 1 j).toInt) K S (fun _ => 0) := ⟨fun j hj => by
    show 10 * (S 1 j).toInt - (S 1 j).toInt * ((0 : Nat) : Int) ≤ _
    simp, h.2⟩
  exact (HI.go hX hA hI 12 (Nat.le_refl _)).nn h.1 (fun j hj => Nat.le_trans (cU_le 12 (by decide) j hj) (by decide))
/-! rain, warmth, springs -/
theorem ra_hn {C : Cf} {S : St} {k K : Int} (hR : Rok C) (hW : Wk k S) (h0 : 0 ≤ k) (hk : k + 500 ≤ 1099511627776) (h : Hn K S) (hK : K < 4611686018427387904) : ∀ n : Nat, n ≤ 12 → Hn (K + 55000 * (n : Int)) (itr (raS C) S n)
  | 0, _ => by
    show Hn (K + 55000 * ((0 : Nat) : Int)) S
    exact h.mono (by omega)
  | n + 1, hn => by
    have ih := ra_hn hR hW h0 hk h hK n (by omega)
    have hw := (ra_ok C S k hR hW h0 hk n (by omega)).2 (by omega)
    show Hn _ (raS C n (itr (raS C) S n))
    generalize itr (raS C) S n = T at ih hw
    have s1 : Hn (K + 55000 * (n : Int) + 40000) (rnS C n T) := by
      unfold rnS
      split
      · exact ih.mono (by omega)
      · have er : (C 10 0).toInt64.toInt = (C 10 0).toInt := Int32.toInt_toInt64 _
        have e8 : (80 : Int64).toInt = 80 := by decide
        have hr := hR
        unfold Rok at hr
        refine (ih.take (M := 40000) (b := n) (by omega) (m := (C 10 0).toInt64) (d := 80) (by rw [er]; exact hr.1) (by rw [e8]; decide) (by rw [er, e8]; omega) (by omega)).row ?_
        rw [u2_c _ _ _ (by decide)]
    exact (s1.warm (hw.ok hk) (by omega) (by omega)).mono (by omega)
theorem note_1 (S : St) (k : Nat) (x : Int64) : noteS S k x 1 = S 1 := by
  unfold noteS
  split
  · rw [u2_c _ _ _ (by decide), u2_c _ _ _ (by decide)]
  · unfold clrS
    rw [itr_c (fun n T => u2_c _ _ _ (by decide)), u2_c _ _ _ (by decide), u2_c _ _ _ (by decide)]
theorem fe_hn {C : Cf} {N : Nat → Nat} {S : St} {k K : Int} (hC : Cok C N) (hW : Wk k S) (hk : k ≤ 1099511627776) (h : Hn K S) : ∀ n, n ≤ N 2 → Hn K (itr (feS C) S n)
  | 0, _ => h
  | n + 1, hn => by
    have ih := fe_hn hC hW hk h n (by omega)
    have hw := fe_ok C N S k hC hW hk n (by omega)
    show Hn _ (feS C n (itr (feS C) S n))
    generalize itr (feS C) S n = T at ih hw
    have hb := (hC.sp (show n < N 2 from hn)).2
    have hf := feG_ok (C := C) (k := n) (hw _ hb).1
    refine (ih.give (hw.ok hk) hb ⟨hf.1, hf.2.1⟩).row ?_
    unfold feS
    rw [u2_c _ _ _ (by decide), note_1]
theorem stm_half {x hot : Int64} (h0 : 0 ≤ x.toInt) (h1 : x.toInt ≤ 1000) : 0 ≤ (stm x hot).toInt ∧ 2 * (stm x hot).toInt ≤ x.toInt := by
  have e0 : (0 : Int64).toInt = 0 := by decide
  have e100 : (100 : Int64).toInt = 100 := by decide
  have e200 : (200 : Int64).toInt = 200 := by decide
  unfold stm
  split
  · rw [e0]; omega
  · rename_i hn
    rw [z_le, e100] at hn
    have hb := hot.toInt_lt
    have hd : (hot - 100).toInt = hot.toInt - 100 := by rw [z_sub (by omega) (by omega), e100]
    have hg : ∃ g : Int64, (if 200 < hot - 100 then 200 else hot - 100) = g ∧ 0 ≤ g.toInt ∧ g.toInt ≤ 200 := by
      refine ⟨_, rfl, ?_⟩
      split
      · rw [e200]; omega
      · rename_i h2
        rw [z_lt, e200, hd] at h2
        rw [hd]; omega
    obtain ⟨g, eg, g0, g1⟩ := hg
    rw [eg]
    have p0 := Int.mul_nonneg h0 g0
    have p1 := Int.mul_le_mul_of_nonneg_left g1 h0
    have em : (x * g).toInt = x.toInt * g.toInt := z_mul (by omega) (by omega)
    have eq : (x * g / 400).toInt = (x * g).toInt / 400 := dv_ok (by rw [em]; exact p0) (by decide) (by decide)
    rw [eq, em]
    omega
/-- what a draw adds to the power and to the heat drawn -/
theorem pow_ok {x hot : Int64} {K : Int} (h0 : 0 ≤ x.toInt) (h1 : x.toInt ≤ 1000) (hh : 0 ≤ hot.toInt) (hx : x.toInt * hot.toInt ≤ K) (hK : K < 4611686018427387904) : (x * hot).toInt = x.toInt * hot.toInt ∧ 0 ≤ (stm x hot * (if 0 < hot - 60 then hot - 60 else 0) / 10).toInt ∧ 16 * (stm x hot * (if 0 < hot - 60 then hot - 60 else 0) / 10).toInt ≤ x.toInt * hot.toInt := by
  have e0 : (0 : Int64).toInt = 0 := by decide
  have e60 : (60 : Int64).toInt = 60 := by decide
  have p0 := Int.mul_nonneg h0 hh
  have hs := stm_half (hot := hot) h0 h1
  have hb := hot.toInt_lt
  have hd : (hot - 60).toInt = hot.toInt - 60 := by rw [z_sub (by omega) (by omega), e60]
  have hg : ∃ g : Int64, (if 0 < hot - 60 then hot - 60 else 0) = g ∧ 0 ≤ g.toInt ∧ g.toInt ≤ hot.toInt := by
    refine ⟨_, rfl, ?_⟩
    split
    · rename_i h2
      rw [z_lt, e0, hd] at h2
      rw [hd]; omega
    · rw [e0]; omega
  obtain ⟨g, eg, g0, g1⟩ := hg
  rw [eg]
  generalize stm x hot = st at hs
  have q0 := Int.mul_nonneg hs.1 g0
  have q1 := Int.mul_le_mul_of_nonneg_left g1 hs.1
  have q2 := Int.mul_le_mul_of_nonneg_right hs.2 hh
  rw [Int.mul_assoc] at q2
  have em : (st * g).toInt = st.toInt * g.toInt := z_mul (by omega) (by omega)
  have eq : (st * g / 10).toInt = (st * g).toInt / 10 := dv_ok (by rw [em]; exact q0) (by decide) (by decide)
  refine ⟨z_mul (by omega) (by omega), ?_, ?_⟩
  · rw [eq, em]; omega
  · rw [eq, em]; omega
theorem find_c {S : St} {w c : Nat} {x : Int64} (h7 : ¬ c = 7) (h8 : ¬ c = 8) : findS S w x c = S c := by
  unfold findS
  (repeat' split) <;> simp only [u2_c _ _ _ h7, u2_c _ _ _ h8]
theorem dr1_1 (C : Cf) (S : St) (w : Nat) : dr1 C S w 1 = giveS (u2 S 5 w (drW C S w)) (plN C w) (drW C S w) 1 := by
  unfold dr1
  rw [find_c (by decide) (by decide)]
theorem dr1_12 (C : Cf) (S : St) (w : Nat) : dr1 C S w 12 = S 12 := by
  unfold dr1 giveS
  rw [find_c (by decide) (by decide), u2_c _ _ _ (by decide), u2_c _ _ _ (by decide), u2_c _ _ _ (by decide), u2_c _ _ _ (by decide)]
theorem dr3c4 (C : Cf) (S : St) (w c : Nat) (x hot : Int64) (h4 : ¬ c = 4) : dr3 C S w x hot c = dr2 C S w x hot c := by
  unfold dr3
  (repeat' split) <;> first | rfl | exact growS_c h4
theorem drawS_c (C : Cf) (N : Nat → Nat) (S : St) (w c : Nat) (h4 : ¬ c = 4) (h11 : ¬ c = 11) : drawS C N S w c = dr2 C S w (drW C S w) (deg S (plN C w)) c := by
  unfold drawS
  rw [itr_c (fun n T => chgS_c h11), dr3c4 _ _ _ _ _ _ h4]
theorem drawS_1 (C : Cf) (N : Nat → Nat) (S : St) (w : Nat) : drawS C N S w 1 = giveS (u2 S 5 w (drW C S w)) (plN C w) (drW C S w) 1 := by
  rw [drawS_c _ _ _ _ _ (by decide) (by decide)]
  unfold dr2
  rw [u2_c _ _ _ (by decide), u2_c _ _ _ (by decide), u2_c _ _ _ (by decide), dr1_1]
theorem drawS_12 (C : Cf) (N : Nat → Nat) (S : St) (w : Nat) : drawS C N S w 12 6 = S 12 6 + stm (drW C S w) (deg S (plN C w)) * (if 0 < deg S (plN C w) - 60 then deg S (plN C w) - 60 else 0) / 10 ∧ drawS C N S w 12 7 = S 12 7 + drW C S w * deg S (plN C w) := by
  rw [drawS_c _ _ _ _ _ (by decide) (by decide)]
  unfold dr2
  constructor <;> simp [u2_ap, dr1_12]
def Sv (B : Int) (S : St) : Prop := 0 ≤ (S 12 6).toInt ∧ (S 12 6).toInt * 16 ≤ (S 12 7).toInt ∧ (S 12 7).toInt ≤ B
theorem Sv.shr {B : Int} {S : St} (h : Sv B S) : Shr S := ⟨h.1, h.2.1⟩
theorem Sv.row {B : Int} {S T : St} (h : Sv B S) (e6 : T 12 6 = S 12 6) (e7 : T 12 7 = S 12 7) : Sv B T := by
  unfold Sv
  rw [e6, e7]
  exact h
theorem dw_h1 {C : Cf} {N : Nat → Nat} {S : St} {k K B : Int} {w : Nat} (hC : Cok C N) (hW : Wk k S) (hk : k ≤ 1099511627776) (hw : w < N 0) (h : Hn K S) (hK : K < 4611686018427387904) (hB : B + K < 4611686018427387904) (hS : Sv B S) : Hn K (dwS C N w S) ∧ Sv (B + K) (dwS C N w S) := by
  have hb := (hC.pl hw).2
  have hd := drW_ok (S := S) (hC.mu hw).2 (hW _ hb).1
  have hh := h.1 _ hb
  have hl := h.le hb
  have hg := deg_ok hh (hW.ok hk _ hb)
  unfold dwS
  split
  · exact ⟨h, hS.1, hS.2.1, by have := hS.2.2; omega⟩
  · constructor
    · have h5 : Hn K (u2 S 5 w (drW C S w)) := h.row (u2_c _ _ _ (by decide))
      have hW5 : Wok (u2 S 5 w (drW C S w)) := (hW.row (u2_c _ _ _ (by decide))).ok hk
      refine (h5.give hW5 hb (m := drW C S w) ⟨hd.1, ?_⟩).row (drawS_1 C N S w)
      rw [u2_c _ _ _ (by decide)]
      exact hd.2.1
    · have hxK : (drW C S w).toInt * (deg S (plN C w)).toInt ≤ K := by
        have p1 := Int.mul_le_mul_of_nonneg_right (show (drW C S w).toInt ≤ (S 0 (plN C w)).toInt + 20000 by omega) hg.1
        rw [Int.mul_comm ((S 0 (plN C w)).toInt + 20000)] at p1
        omega
      have hp := pow_ok hd.1 hd.2.2 hg.1 hxK hK
      have p0 := Int.mul_nonneg hd.1 hg.1
      obtain ⟨s1, s2, s3⟩ := hS
      obtain ⟨d6, d7⟩ := drawS_12 C N S w
      have e6 := congrArg Int64.toInt d6
      have e7 := congrArg Int64.toInt d7
      rw [z_add (by omega) (by omega)] at e6
      rw [z_add (by rw [hp.1]; omega) (by rw [hp.1]; omega), hp.1] at e7
      unfold Sv
      rw [e6, e7]
      omega
theorem dw_h {C : Cf} {N : Nat → Nat} {S : St} {k K B : Int} (hC : Cok C N) (hW : Wk k S) (hk : k ≤ 1099511627776) (hE : Wel N S) (h : Hn K S) (h0 : 0 ≤ K) (hK : K < 4611686018427387904) (hB : B + 10 * K < 4611686018427387904) (hS : Sv B S) : ∀ n : Nat, n ≤ N 0 → Hn K (itr (dwS C N) S n) ∧ Sv (B + n * K) (itr (dwS C N) S n)
  | 0, _ => ⟨h, by
    show Sv (B + ((0 : Nat) : Int) * K) S
    rw [show B + ((0 : Nat) : Int) * K = B by simp]
    exact hS⟩
  | n + 1, hn => by
    have ih := dw_h hC hW hk hE h h0 hK hB hS n (by omega)
    have hw := (dw_ok C N S k hC hW hk hE n (by omega)).1
    have hN := hC.n0
    have q := Int.mul_le_mul_of_nonneg_right (show (n : Int) + 1 ≤ 10 by omega) h0
    rw [Int.add_mul] at q
    show Hn K (dwS C N n (itr (dwS C N) S n)) ∧ Sv _ (dwS C N n (itr (dwS C N) S n))
    have := dw_h1 hC hw hk (show n < N 0 from hn) ih.1 hK (by omega) ih.2
    rw [show B + ((n + 1 : Nat) : Int) * K = B + n * K + K by rw [Int.natCast_add, Int.add_mul]; simp; omega]
    exact this
theorem brW_eq {C : Cf} {S : St} {w : Nat} (hm : muN C w ≤ 1000) (h0 : 0 ≤ (S 0 (plN C w)).toInt) (hd : 0 ≤ (deg S (plN C w)).toInt) : 0 ≤ (bhW C S w).toInt ∧ (bhW C S w).toInt ≤ 100 * (brW C S w).toInt := by
  have hb := brW_ok hm h0
  have e100 : (100 : Int64).toInt = 100 := by decide
  have hg : ∃ g : Int64, (if 100 < deg S (plN C w) then 100 else deg S (plN C w)) = g ∧ 0 ≤ g.toInt ∧ g.toInt ≤ 100 := by
    refine ⟨_, rfl, ?_⟩
    split
    · rw [e100]; omega
    · rename_i h
      rw [z_lt, e100] at h
      omega
  obtain ⟨g, eg, g0, g1⟩ := hg
  unfold bhW
  rw [eg]
  have p0 := Int.mul_nonneg hb.1 g0
  have p1 := Int.mul_le_mul_of_nonneg_left g1 hb.1
  rw [z_mul (by omega) (by omega)]
  omega
theorem brh_ok {C : Cf} {N : Nat → Nat} {S : St} {k K B : Int} (hC : Cok C N) (hW : Wk k S) (hk : k ≤ 1099511627776) (hE : Wel N S) (h : Hn K S) (h0 : 0 ≤ K) (hK : K < 4611686018427387904) (hB : B + 10 * K < 4611686018427387904) (hS : Sv B S) : ∀ n : Nat, n ≤ N 0 → 0 ≤ (brh C N S n).toInt ∧ (brh C N S n).toInt ≤ 100 * (brn C N S n).toInt
  | 0, _ => ⟨(by decide : 0 ≤ (0 : Int64).toInt), (by decide : (0 : Int64).toInt ≤ 100 * (0 : Int64).toInt)⟩
  | n + 1, hn => by
    have ih := brh_ok hC hW hk hE h h0 hK hB hS n (by omega)
    have hN := hC.n0
    have hbr := brn_ok hC hW hk hE n (by omega)
    have hbr1 := brn_ok hC hW hk hE (n + 1) hn
    have hwn := (dw_ok C N S k hC hW hk hE n (by omega)).1
    have hhn := (dw_h hC hW hk hE h h0 hK hB hS n (by omega)).1
    have hb := (hC.pl (show n < N 0 from hn)).2
    have hd := (deg_ok (hhn.1 _ hb) (hwn.ok hk _ hb)).1
    have hw := brW_eq (hC.mu (show n < N 0 from hn)).2 (hwn _ hb).1 hd
    have hw2 := brW_ok (hC.mu (show n < N 0 from hn)).2 (hwn _ hb).1
    rw [brh_s, brn_s]
    split
    · exact ih
    · rw [z_add (by omega) (by omega), z_add (by omega) (by omega)]
      omega
theorem sel_ok {C : Cf} {br bh s0 : Int64} (h0 : 0 ≤ bh.toInt) (h1 : bh.toInt ≤ 100 * br.toInt) : ∀ n, (∀ u, u < n → 0 ≤ (C 6 u).toInt) → 0 ≤ (selP C br bh s0 n).1.toInt ∧ (selP C br bh s0 n).1.toInt ≤ 100
  | 0, _ => by
    show 0 ≤ (if br ≤ 0 then (0 : Int64) else bh / br).toInt ∧ (if br ≤ 0 then (0 : Int64) else bh / br).toInt ≤ 100
    have e0 : (0 : Int64).toInt = 0 := by decide
    split
    · rw [e0]; omega
    · rename_i h
      rw [z_le, e0] at h
      rw [dv_gen h0 (by omega)]
      exact ⟨Int.ediv_nonneg h0 (by omega), Int.ediv_le_of_le_mul (by omega) h1⟩
  | n + 1, hu => by
    have ih := sel_ok (s0 := s0) h0 h1 n (fun u h => hu u (Nat.lt_succ_of_lt h))
    have h6 := hu n (Nat.lt_succ_self n)
    have e6 : (C 6 n).toInt64.toInt = (C 6 n).toInt := Int32.toInt_toInt64 _
    rw [selP_s]
    split
    · exact ih
    · split
      · exact ih
      · show 0 ≤ ((selP C br bh s0 n).1 - (if (selP C br bh s0 n).1 < (C 6 n).toInt64 then (selP C br bh s0 n).1 else (C 6 n).toInt64)).toInt ∧ ((selP C br bh s0 n).1 - (if (selP C br bh s0 n).1 < (C 6 n).toInt64 then (selP C br bh s0 n).1 else (C 6 n).toInt64)).toInt ≤ 100
        generalize (selP C br bh s0 n).1 = t at ih
        split
        · rw [z_sub (by omega) (by omega)]; omega
        · rename_i h
          rw [z_lt, e6] at h
          rw [z_sub (by rw [e6]; omega) (by rw [e6]; omega), e6]
          omega
theorem gb_h {C : Cf} {N : Nat → Nat} {V : St} {hot : Int64} {K : Int} (hC : Cok C N) (h : Hn K V) (hK : K < 4611686018427387904) (hh : 0 ≤ hot.toInt ∧ hot.toInt ≤ 100) (h5 : ∀ j, j < N 0 → ret_ C V j = true → 0 ≤ (V 5 j).toInt ∧ (V 5 j).toInt ≤ 10000000) : ∀ n : Nat, n ≤ N 0 → Hn (K + 1000000000 * (n : Int)) (itr (gb2 C hot) V n)
  | 0, _ => by
    show Hn (K + 1000000000 * ((0 : Nat) : Int)) V
    exact h.mono (by omega)
  | n + 1, hn => by
    have ih := gb_h hC h hK hh h5 n (by omega)
    have hN := hC.n0
    have e5 : itr (gb2 C hot) V n 5 = V 5 := itr_c (fun n T => gb2_c (by decide) (by decide) (by decide)) V n
    have e6 : itr (gb2 C hot) V n 6 = V 6 := itr_c (fun n T => gb2_c (by decide) (by decide) (by decide)) V n
    show Hn _ (gb2 C hot n (itr (gb2 C hot) V n))
    generalize itr (gb2 C hot) V n = T at ih e5 e6 ⊢
    unfold gb2
    rw [ret_congr e6]
    split
    · exact ih.mono (by omega)
    · rename_i hr
      have hv := h5 n hn (by simpa using hr)
      have p0 := Int.mul_nonneg hv.1 hh.1
      have p1 := Int.mul_le_mul_of_nonneg_left hh.2 hv.1
      rw [e5]
      refine ((ih.take (M := 1000000000) (hC.pl (show n < N 0 from hn)).2 hv.1 hh.1 (by omega) (by omega)).row ?_).mono (by omega)
      rw [u2_c _ _ _ (by decide)]
theorem itr_ci {f : Nat → St → St} {c i : Nat} (h : ∀ n S, f n S c i = S c i) (S : St) : ∀ n, itr f S n c i = S c i
  | 0 => rfl
  | n + 1 => (h n _).trans (itr_ci h S n)
theorem warm_12 (S : St) (b i : Nat) : warmS S b 12 i = S 12 i := by
  unfold warmS
  split
  · rfl
  · rw [u2_c _ _ _ (by decide)]
theorem ra_12 (C : Cf) (b : Nat) (S : St) {i : Nat} (hi : ¬ i = 4) : raS C b S 12 i = S 12 i := by
  unfold raS
  rw [warm_12]
  unfold rnS
  split
  · rfl
  · rw [u2_ne _ _ _ hi]
    unfold takeS
    rw [u2_c _ _ _ (by decide), u2_c _ _ _ (by decide)]
theorem note_12 (S : St) (k : Nat) (x : Int64) : noteS S k x 12 = S 12 := by
  unfold noteS
  split
  · rw [u2_c _ _ _ (by decide), u2_c _ _ _ (by decide)]
  · unfold clrS
    rw [itr_c (fun n T => u2_c _ _ _ (by decide)), u2_c _ _ _ (by decide), u2_c _ _ _ (by decide)]
theorem fe_12 (C : Cf) (k : Nat) (S : St) {i : Nat} (hi : ¬ i = 3) : feS C k S 12 i = S 12 i := by
  unfold feS
  rw [u2_ne _ _ _ hi, note_12]
  unfold giveS
  rw [u2_c _ _ _ (by decide), u2_c _ _ _ (by decide), u2_c _ _ _ (by decide)]
theorem sh_c (b : Nat) (S : St) {c : Nat} (h3 : ¬ c = 3) (h14 : ¬ c = 14) : shS b S c = S c := by
  unfold shS
  rw [u2_c _ _ _ h3]
  split
  · rfl
  · rw [u2_c _ _ _ h14]
theorem gbS_12 (C : Cf) (N : Nat → Nat) (S : St) (br hot : Int64) {i : Nat} (hi : ¬ i = 2) : gbS C N S br hot 12 i = S 12 i := by
  unfold gbS
  rw [itr_c (fun n T => gb2_c (by decide) (by decide) (by decide)), u2_ne _ _ _ hi, itr_c (fun n T => gb1_c (by decide))]
theorem mon_12 (C : Cf) (N : Nat → Nat) (S : St) {i : Nat} (hi : i = 6 ∨ i = 7) : monS C N S 12 i = m2S C N S 12 i := by
  unfold monS m7S m6S m5S m4S m3S
  rw [itr_ci (fun n T => fe_12 C n T (by omega)), itr_ci (fun n T => ra_12 C n T (by omega)), crk_oth _ _ (by decide), itr_c (fun n T => sh_c n T (by decide) (by decide)), gbS_12 _ _ _ _ _ (by omega), u2_ne _ _ _ (by omega)]
theorem m1_cc (C : Cf) (N : Nat → Nat) (S : St) {c : Nat} (h5 : ¬ c = 5) (h6 : ¬ c = 6) (h13 : ¬ c = 13) : m1S C N S c = S c := by
  unfold m1S
  rw [itr_c (fun n T => by unfold shW; rw [u2_c _ _ _ h6, u2_c _ _ _ h5]), u2_c _ _ _ h13]
/-- the heat of the blocks, the heat drawn and the power -/
def Hv (C : Cf) (N : Nat → Nat) (S : St) (m : Nat) : Prop := (∀ u, u < N 1 → 0 ≤ (C 6 u).toInt) ∧ (m = 0 → ∀ b, b < 12 → (S 1 b).toInt ≤ 25000000) ∧ Hn (300000000 + 10000660000 * (m : Int)) S ∧ Sv (100000000000000 * (m : Int)) S
theorem mon_Hv {C : Cf} {N : Nat → Nat} {S : St} {m : Nat} (hm : m ≤ 700) (hI : Iv C N S m) (h : Hv C N S m) : Hv C N (monS C N S) (m + 1) := by
  obtain ⟨hC, hR, hX, _, _, hW, hE, h13, _, _, _⟩ := hI
  obtain ⟨h6, _, hH, hS⟩ := h
  have hN := hC.n0
  have h13m : (S 13 0).toInt ≤ 900 := by rw [h13, pk_lT (by omega)]; omega
  obtain ⟨k, ek⟩ : ∃ k : Int, k = 50000 + 100000500 * (m : Int) := ⟨_, rfl⟩
  obtain ⟨K, eK⟩ : ∃ K : Int, K = 300000000 + 10000660000 * (m : Int) := ⟨_, rfl⟩
  obtain ⟨B, eB⟩ : ∃ B : Int, B = 100000000000000 * (m : Int) := ⟨_, rfl⟩
  rw [← ek] at hW
  rw [← eK] at hH
  rw [← eB] at hS
  have w1 := m1_ok C N S k hW hE h13m
  have a1 : Hn K (m1S C N S) := hH.row (m1_cc C N S (by decide) (by decide) (by decide))
  have s1 : Sv B (m1S C N S) := by
    have e := m1_cc C N S (c := 12) (by decide) (by decide) (by decide)
    exact hS.row (by rw [e]) (by rw [e])
  have a2 := dw_h hC w1.1 (by omega) w1.2 a1 (by omega) (by omega) (by omega) s1 (N 0) (Nat.le_refl _)
  have hbh := brh_ok hC w1.1 (by omega) w1.2 a1 (by omega) (by omega) (by omega) s1 (N 0) (Nat.le_refl _)
  have hbr := brn_ok hC w1.1 (by omega) w1.2 (N 0) (Nat.le_refl _)
  have hhot : 0 ≤ (mSel C N S).1.toInt ∧ (mSel C N S).1.toInt ≤ 100 := sel_ok hbh.1 hbh.2 (N 1) h6
  have hbr2 : 0 ≤ (mBr C N S).toInt ∧ (mBr C N S).toInt ≤ 10000 := by
    unfold mBr
    omega
  have a3 : Hn K (m3S C N S) := a2.1.row (u2_c _ _ _ (by decide))
  have a4 : Hn (K + 10000000000) (m4S C N S) := by
    unfold m4S
    generalize m3S C N S = T at a3
    generalize mBr C N S = br at hbr2
    generalize (mSel C N S).1 = hot at hhot
    unfold gbS
    generalize wgt C T (N 0) = W
    have h4 : Hn K (u2 (itr (gb1 C br W) T (N 0)) 12 2 (itr (gb1 C br W) T (N 0) 12 2 + lft C br W T (N 0))) := a3.row (by rw [u2_c _ _ _ (by decide)]; exact itr_c (fun n T => gb1_c (by decide)) T (N 0))
    refine (gb_h hC h4 (by omega) hhot (fun j hj hr => ?_) (N 0) (Nat.le_refl _)).mono (by omega)
    have e6 : (u2 (itr (gb1 C br W) T (N 0)) 12 2 (itr (gb1 C br W) T (N 0) 12 2 + lft C br W T (N 0))) 6 = T 6 := by
      rw [u2_c _ _ _ (by decide)]
      exact itr_c (fun n T => gb1_c (by decide)) T (N 0)
    rw [ret_congr e6] at hr
    rw [u2_c _ _ _ (by decide), gb1_5, if_pos ⟨hj, hr⟩]
    exact part_ok (hC.mu hj) hbr2.1 hbr2.2
  have w4 := m4_ok C N S k hC hW (by omega) (by omega) hE h13m
  have w5 : Wk (k + 100000000) (m5S C N S) := w4.row (m5_0 _ 12)
  have a5 : Hn (K + 10000000000) (m5S C N S) := a4.row (itr_c (fun n T => sh_c n T (by decide) (by decide)) _ 12)
  have w6 : Wk (k + 100000000) (m6S C N S) := crk_ok C _ _ hX (by omega) w5
  have a6 : Hn (K + 10000000000) (m6S C N S) := a5.crk hX (by omega) w5 (by omega)
  have w7 : Wk (k + 100000000 + 500) (m7S C N S) := (ra_ok C _ _ hR w6 (by omega) (by omega) 12 (Nat.le_refl _)).1
  have a7 := ra_hn hR w6 (by omega) (by omega) a6 (by omega) 12 (Nat.le_refl _)
  have a8 : Hn _ (monS C N S) := fe_hn hC w7 (by omega) a7 (N 2) (Nat.le_refl _)
  refine ⟨h6, fun z => absurd z (Nat.succ_ne_zero m), a8.mono (by omega), ?_⟩
  have q : (N 0 : Int) * K ≤ 10 * K := Int.mul_le_mul_of_nonneg_right (by omega) (by omega)
  have s2 := a2.2.row (T := monS C N S) (mon_12 C N S (Or.inl rfl)) (mon_12 C N S (Or.inr rfl))
  exact ⟨s2.1, s2.2.1, by have := s2.2.2; omega⟩
theorem mns_Hv {C : Cf} {N : Nat → Nat} {S : St} {m : Nat} (hI : Iv C N S m) (h : Hv C N S m) : ∀ n, m + n ≤ 700 → Hv C N (mnS C N S n) (m + n)
  | 0, _ => h
  | n + 1, hn => by
    have h9 : m + n ≤ 700 := by omega
    exact mon_Hv (m := m + n) h9 (mns_Iv hI n h9) (mns_Hv hI h n h9)
