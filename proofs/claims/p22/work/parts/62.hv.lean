/-! what the calls keep of the heat -/
theorem c2_6 {C : Cf} {c i : Nat} {v : Int32} (h : ¬ 6 = c) : c2 C c i v 6 = C 6 := by
  funext j
  rw [c2_ap, if_neg (fun z => h z.1)]
theorem swC_6 {C : Cf} {b o : Nat} {r : Int32} : swC C b o r 6 = C 6 := by
  unfold swC
  split <;> exact c2_6 (by decide)
theorem Hv.mv {C B : Cf} {N M : Nat → Nat} {S T : St} {m : Nat} (h : Hv C N S m) (h6 : B 6 = C 6) (hn : M 1 = N 1) (e1 : T 1 = S 1) (e12 : T 12 = S 12) : Hv B M T m :=
  ⟨fun u hu => by rw [h6]; exact h.1 u (by rw [← hn]; exact hu), fun z b hb => by rw [e1]; exact h.2.1 z b hb, h.2.2.1.row e1, h.2.2.2.row (by rw [e12]) (by rw [e12])⟩
theorem hv_use {C : Cf} {N : Nat → Nat} {S : St} {m : Nat} {a b : Int32} (h : Hv C N S m) (hb : inB b (nI 1) (nI 50) = true) : Hv (c2 (c2 C 5 (N 1) a) 6 (N 1) b) (n2 N 1 (N 1 + 1)) S m := by
  refine ⟨fun u hu => ?_, h.2⟩
  have hu' : u < N 1 + 1 := hu
  rw [c2_ap]
  split
  · have h1 := (inB_iff.mp hb).1
    rw [Int32.lt_iff_toInt_lt, nI_toInt (by omega)] at h1
    omega
  · rw [c2_6 (by decide)]
    exact h.1 u (by omega)
theorem hv_block {C : Cf} {N : Nat → Nat} {S : St} {m : Nat} {v q r : Int32} (hI : Iv C N S m) (hm : m ≤ 600) (h : Hv C N S m) (hc : cB3 S v q r = 0) : Hv C N (u2 (u2 S 0 (nN v) q.toInt64) 1 (nN v) (r.toInt64 * (q + nI 20000).toInt64)) m := by
  obtain ⟨a1, a2, a3, a4⟩ := cB3_a hc
  obtain ⟨hvn, -⟩ := inB_k (by decide) a1
  have hq := inB_t (by decide) a2
  have hr := inB_t (by decide) a3
  have e0 : (0 : Int64).toInt = 0 := by decide
  have hm0 : m = 0 := by
    rw [hI.2.2.2.2.2.2.2.1, z_le, e0, pk_lT (by omega)] at a4
    omega
  have e1 : (q + nI 20000).toInt = q.toInt + 20000 := by
    rw [Int32.toInt_add, nI_toInt (by omega)]
    exact Int.bmod_eq_of_le (by omega) (by omega)
  have p0 := Int.mul_nonneg hr.1 (show 0 ≤ q.toInt + 20000 by omega)
  have p1 : r.toInt * (q.toInt + 20000) ≤ 350 * 70000 := Int.mul_le_mul hr.2 (by omega) (by omega) (by omega)
  have ex : (r.toInt64 * (q + nI 20000).toInt64).toInt = r.toInt * (q.toInt + 20000) := by
    rw [z_mul (by rw [Int32.toInt_toInt64, Int32.toInt_toInt64, e1]; omega) (by rw [Int32.toInt_toInt64, Int32.toInt_toInt64, e1]; omega), Int32.toInt_toInt64, Int32.toInt_toInt64, e1]
  generalize r.toInt64 * (q + nI 20000).toInt64 = x at ex
  have hx : 0 ≤ x.toInt ∧ x.toInt ≤ 25000000 := by rw [ex]; omega
  have er : ∀ j, u2 (u2 S 0 (nN v) q.toInt64) 1 (nN v) x 1 j = if j = nN v then x else S 1 j := fun j => by
    rw [u2_ap, u2_c _ _ _ (by decide)]
    by_cases h : j = nN v
    · rw [if_pos ⟨rfl, h⟩, if_pos h]
    · rw [if_neg (fun z => h z.2), if_neg h]
  have hall : ∀ b, b < 12 → 0 ≤ (u2 (u2 S 0 (nN v) q.toInt64) 1 (nN v) x 1 b).toInt ∧ (u2 (u2 S 0 (nN v) q.toInt64) 1 (nN v) x 1 b).toInt ≤ 25000000 := fun b hb => by
    rw [er]
    split
    · exact hx
    · exact ⟨h.2.2.1.1 b hb, h.2.1 hm0 b hb⟩
  refine ⟨h.1, fun _ b hb => (hall b hb).2, ⟨fun b hb => (hall b hb).1, ?_⟩, h.2.2.2.row (by rw [u2_c _ _ _ (by decide), u2_c _ _ _ (by decide)]) (by rw [u2_c _ _ _ (by decide), u2_c _ _ _ (by decide)])⟩
  have g0 := (hall 0 (by decide)).2
  have g1 := (hall 1 (by decide)).2
  have g2 := (hall 2 (by decide)).2
  have g3 := (hall 3 (by decide)).2
  have g4 := (hall 4 (by decide)).2
  have g5 := (hall 5 (by decide)).2
  have g6 := (hall 6 (by decide)).2
  have g7 := (hall 7 (by decide)).2
  have g8 := (hall 8 (by decide)).2
  have g9 := (hall 9 (by decide)).2
  have g10 := (hall 10 (by decide)).2
  have g11 := (hall 11 (by decide)).2
  unfold ht
  omega
