theorem dM2_4 {S : St} {b w : Nat} {x hot : Int64} : dM2 S b w x hot 4 = S 4 := by
  unfold dM2 dM1 fndM
  rw [u2_c _ _ _ (by decide), u2_c _ _ _ (by decide), u2_c _ _ _ (by decide), u2_c _ _ _ (by decide), u2_c _ _ _ (by decide), u2_c _ _ _ (by decide), giveS_c (by decide) (by decide) (by decide)]
theorem d4_b {S : St} {b w : Nat} {x hot : Int64} (h : S 4 w = lN (scN S w) ∧ scN S w ≤ 100) : 0 ≤ (dM2 S b w x hot 4 w).toInt ∧ (dM2 S b w x hot 4 w).toInt ≤ 100 := by
  rw [dM2_4, h.1, lN_toInt (by omega)]
  omega

theorem hV_L_wells : yL_wells.cls = RL ∧ yL_wells.cls ≠ "java/lang/invoke/MethodHandle" ∧ yL_wells.cls ≠ "java/lang/invoke/VarHandle" ∧ (parseMethodDescriptor yL_wells.desc).map (fun d => d.parameters.length) = some 11 := by decide +kernel
abbrev rm_L_wells : Room := { frames := 2, cells := 0, slots := 0, locals := 51 }
