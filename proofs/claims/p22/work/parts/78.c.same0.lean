theorem cn_0 (N : Nat → Nat) (S : St) : cnM N S (nI 0) = (S 13 0).toInt32 := if_neg (fun z => z rfl)
theorem cn_4 (N : Nat → Nat) (S : St) : cnM N S (nI 4) = (S 14 0).toInt32 := by
  unfold cnM
  rw [if_pos (by decide), if_pos (by decide), if_pos (by decide), if_pos (by decide)]
theorem sm_0 (S : St) : smM S (nI 0) = itr (fun i a => a + S 0 i) 0 12 := by
  unfold smM
  rw [if_pos (show nI 0 = 0 from rfl)]
  exact wl_eq S
theorem nI_n0' {n : Nat} (hn : n < 1000) (h : ¬ n = 0) : ¬ nI n = 0 := fun z => h (by
  have := congrArg Int32.toInt z
  rw [nI_toInt (by omega)] at this
  have e0 : (0 : Int32).toInt = 0 := rfl
  omega)
theorem sm_i (S : St) {i : Nat} (h : ¬ i = 0) (h8 : i < 8) : smM S (nI i) = S 12 i := by
  unfold smM
  rw [if_neg (nI_n0' (by omega) h), nN_I (by omega)]
theorem kp_lt {S : St} {n : Nat} (h : n < qN S) (h2 : n < 20) : n < kpM S := by
  unfold kpM
  split <;> omega

theorem hV_L_same : yL_same.cls = RL ∧ yL_same.cls ≠ "java/lang/invoke/MethodHandle" ∧ yL_same.cls ≠ "java/lang/invoke/VarHandle" ∧ (parseMethodDescriptor yL_same.desc).map (fun d => d.parameters.length) = some 13 := by decide +kernel
abbrev rm_L_same : Room := { frames := 3, cells := 0, slots := 0, locals := 71 }
