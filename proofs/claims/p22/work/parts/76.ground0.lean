theorem hV_L_ground : yL_ground.cls = RL ∧ yL_ground.cls ≠ "java/lang/invoke/MethodHandle" ∧ yL_ground.cls ≠ "java/lang/invoke/VarHandle" ∧ (parseMethodDescriptor yL_ground.desc).map (fun d => d.parameters.length) = some 10 := by decide +kernel
abbrev rm_L_ground : Room := { frames := 2, cells := 3, slots := 36, locals := 51 }
