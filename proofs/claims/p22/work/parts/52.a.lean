/-! a field's copy; what would be -/
/-- zero beyond the counts -/
def ZB (C : Cf) (N : Nat → Nat) (S : St) : Prop := (∀ c w, 4 ≤ c → c ≤ 8 → N 0 ≤ w → w < 10 → S c w = 0) ∧ (∀ c w, 2 ≤ c → c ≤ 4 → N 0 ≤ w → w < 10 → C c w = 0) ∧ (∀ c u, 5 ≤ c → c ≤ 6 → N 1 ≤ u → u < 6 → C c u = 0) ∧ (∀ c k, 7 ≤ c → c ≤ 9 → N 2 ≤ k → k < 4 → C c k = 0) ∧ (∀ c k, 9 ≤ c → c ≤ 10 → N 2 ≤ k → k < 4 → S c k = 0) ∧ (∀ k w, w < 10 → k < 4 → (N 2 ≤ k ∨ N 0 ≤ w) → S 11 (10 * k + w) = 0)
theorem wFX_sim {f : Nat → Nat} {cI cJ cZ : ClassId} {gC wC uC sC hC B : Cf} {wN uN sN M : Nat → Nat} {gS wT sS qS hS X T : St} {Qk : Nat → Int64} (hg : ∀ c b, c < 4 → b < 12 → gS c b = T c b) (hgc : ∀ c b, c < 2 → b < 12 → gC c b = B c b) (hw : ∀ c w, 4 ≤ c → c ≤ 8 → w < 10 → wT c w = T c w) (hwc : ∀ c w, 2 ≤ c → c ≤ 4 → w < 10 → wC c w = B c w) (hwn : wN 0 = M 0) (huc : ∀ c u, 5 ≤ c → c ≤ 6 → u < 6 → uC c u = B c u) (hun : uN 1 = M 1) (hsc : ∀ c k, 7 ≤ c → c ≤ 9 → k < 4 → sC c k = B c k) (hsn : sN 2 = M 2) (hs : ∀ c k, 9 ≤ c → c ≤ 10 → k < 4 → sS c k = T c k) (hs11 : ∀ j, j < 40 → sS 11 j = T 11 j) (hq : qS 14 0 = T 14 0) (hh : hS 13 0 = T 13 0) (hh12 : ∀ k, k < 8 → hS 12 k = T 12 k) (hc10 : hC 10 0 = B 10 0) : g_sim (wFX f cI cJ cZ gC gS wC wN wT uC uN sC sN sS qS Qk hC hS X) (wF f cI cJ cZ B M T Qk X) := by
  unfold wFX wF wG wW wU wS wQ
  rw [hh, hc10, hwn, hun, hsn, hq]
  have i32e : ∀ {a b : St} {c w : Nat}, a c w = b c w → i32 (a c) w = i32 (b c) w := fun h => congrArg Int64.toInt32 h
  refine ⟨⟨rfl, Or.inl rfl⟩, g_sim.app ?_ (g_sim.app ?_ (g_sim.app ?_ (g_sim.app ?_ (g_sim.app ?_ ?_))))⟩
  · exact ⟨⟨rfl, Or.inl rfl⟩, g_seJ _ _ _ (fun j hj => hg 0 j (by omega) hj), g_seJ _ _ _ (fun j hj => hg 1 j (by omega) hj), g_seJ _ _ _ (fun j hj => hg 2 j (by omega) hj), g_seJ _ _ _ (fun j hj => hg 3 j (by omega) hj), g_seI _ _ _ (fun j hj => hgc 0 j (by omega) hj), g_seI _ _ _ (fun j hj => hgc 1 j (by omega) hj), g_sim.rfl' _⟩
  · exact ⟨⟨rfl, Or.inl rfl⟩, g_seI _ _ _ (fun j hj => hwc 2 j (by omega) (by omega) hj), g_seI _ _ _ (fun j hj => hwc 3 j (by omega) (by omega) hj), g_seI _ _ _ (fun j hj => hwc 4 j (by omega) (by omega) hj), g_seI _ _ _ (fun j hj => i32e (hw 4 j (by omega) (by omega) hj)), g_seJ _ _ _ (fun j hj => hw 5 j (by omega) (by omega) hj), g_seI _ _ _ (fun j hj => i32e (hw 6 j (by omega) (by omega) hj)), g_seJ _ _ _ (fun j hj => hw 7 j (by omega) (by omega) hj), g_seI _ _ _ (fun j hj => i32e (hw 8 j (by omega) (by omega) hj)), trivial⟩
  · exact ⟨⟨rfl, Or.inl rfl⟩, g_seI _ _ _ (fun j hj => huc 5 j (by omega) (by omega) hj), g_seI _ _ _ (fun j hj => huc 6 j (by omega) (by omega) hj), trivial⟩
  · exact ⟨⟨rfl, Or.inl rfl⟩, g_seI _ _ _ (fun j hj => hsc 7 j (by omega) (by omega) hj), g_seI _ _ _ (fun j hj => hsc 8 j (by omega) (by omega) hj), g_seI _ _ _ (fun j hj => hsc 9 j (by omega) (by omega) hj), g_seJ _ _ _ (fun j hj => hs 9 j (by omega) (by omega) hj), g_seI _ _ _ (fun j hj => i32e (hs 10 j (by omega) (by omega) hj)), g_seJ _ _ _ (fun j hj => hs11 j hj), trivial⟩
  · exact g_sim.rfl' _
  · exact ⟨g_seJ _ _ _ (fun j hj => hh12 j hj), trivial⟩
theorem cc_1 {C B : Cf} {cs : List Nat} {c j n : Nat} (hc : c ∈ cs) (hz : ¬ j < n → C c j = B c j) : cpC B cs C n c j = B c j := by
  rw [cpC_at]
  by_cases h : j < n
  · rw [if_pos ⟨hc, h⟩]
  · rw [if_neg (fun z => h z.2)]
    exact hz h
theorem cs_1 {S T : St} {cs : List Nat} {c j n : Nat} (hc : c ∈ cs) (hz : ¬ j < n → S c j = T c j) : cpS T cs S n c j = T c j := by
  rw [cpS_at]
  by_cases h : j < n
  · rw [if_pos ⟨hc, h⟩]
  · rw [if_neg (fun z => h z.2)]
    exact hz h
theorem mem_lo {c lo hi : Nat} (l : List Nat) (h1 : lo ≤ c) (h2 : c ≤ hi) (h : ∀ x, x < 20 → lo ≤ x → x ≤ hi → x ∈ l) (hh : hi < 20) : c ∈ l := h c (by omega) h1 h2
/-- the copied field is the other -/
theorem fcp_sim {f : Nat → Nat} {cI cJ cZ : ClassId} {C B : Cf} {N M : Nat → Nat} {S T X : St} {Qk : Nat → Int64} (hZ : ZB C N S) (hY : ZB B M T) (h0 : N 0 ≤ M 0) (h1 : N 1 ≤ M 1) (h2 : N 2 ≤ M 2) {a b c : St} {Ca : Cf} (ha : a = u2 S 13 0 (T 13 0)) (hCa : Ca = c2 C 10 0 (B 10 0)) : g_sim (wFX f cI cJ cZ (cpC B [0, 1] C 12) (cpS T [0, 1, 2, 3] S 12) (cpC B [2, 3, 4] C (M 0)) (n2 N 0 (M 0)) (cpS T [4, 5, 6, 7, 8] S (M 0)) (cpC B [5, 6] C (M 1)) (n2 N 1 (M 1)) (cpC B [7, 8, 9] C (M 2)) (n2 N 2 (M 2)) (cpS T [11] (cpS T [9, 10] S (M 2)) (10 * M 2)) (u2 S 14 0 (T 14 0)) Qk Ca (cpS T [12] a 8) X) (wF f cI cJ cZ B M T Qk X) := by
  refine wFX_sim ?_ ?_ ?_ ?_ rfl ?_ rfl ?_ rfl ?_ ?_ (u2_same _ _ _ _) ?_ ?_ ?_
  · exact fun c b hc hb => cs_1 (mem_lo _ (Nat.zero_le c) (show c ≤ 3 by omega) (by decide) (by decide)) (fun z => absurd hb z)
  · exact fun c b hc hb => cc_1 (mem_lo _ (Nat.zero_le c) (show c ≤ 1 by omega) (by decide) (by decide)) (fun z => absurd hb z)
  · exact fun c w hc hc2 hw => cs_1 (mem_lo _ hc hc2 (by decide) (by decide)) (fun z => (hZ.1 c w hc hc2 (by omega) hw).trans (hY.1 c w hc hc2 (by omega) hw).symm)
  · exact fun c w hc hc2 hw => cc_1 (mem_lo _ hc hc2 (by decide) (by decide)) (fun z => (hZ.2.1 c w hc hc2 (by omega) hw).trans (hY.2.1 c w hc hc2 (by omega) hw).symm)
  · exact fun c w hc hc2 hw => cc_1 (mem_lo _ hc hc2 (by decide) (by decide)) (fun z => (hZ.2.2.1 c w hc hc2 (by omega) hw).trans (hY.2.2.1 c w hc hc2 (by omega) hw).symm)
  · exact fun c w hc hc2 hw => cc_1 (mem_lo _ hc hc2 (by decide) (by decide)) (fun z => (hZ.2.2.2.1 c w hc hc2 (by omega) hw).trans (hY.2.2.2.1 c w hc hc2 (by omega) hw).symm)
  · intro c w hc hc2 hw
    rw [cpS_at, if_neg (fun z => by have := List.mem_singleton.mp z.1; omega)]
    exact cs_1 (mem_lo _ hc hc2 (by decide) (by decide)) (fun z => (hZ.2.2.2.2.1 c w hc hc2 (by omega) hw).trans (hY.2.2.2.2.1 c w hc hc2 (by omega) hw).symm)
  · intro j hj
    refine cs_1 (List.mem_singleton.mpr rfl) (fun z => ?_)
    rw [cpS_at, if_neg (fun z => by have := z.1; simp at this)]
    have e : j = 10 * (j / 10) + j % 10 := by omega
    rw [e]
    exact (hZ.2.2.2.2.2 (j / 10) (j % 10) (by omega) (by omega) (Or.inl (by omega))).trans (hY.2.2.2.2.2 (j / 10) (j % 10) (by omega) (by omega) (Or.inl (by omega))).symm
  · rw [cpS_at, if_neg (fun z => by have := List.mem_singleton.mp z.1; omega), ha]
    exact u2_same _ _ _ _
  · exact fun k hk => cs_1 (List.mem_singleton.mpr rfl) (fun z => absurd hk z)
  · rw [hCa, c2_ap, if_pos ⟨rfl, rfl⟩]

