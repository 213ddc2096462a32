abbrev rm_L_cell : Room := { frames := 0, cells := 0, slots := 0, locals := 0 }
theorem hV_L_cell : yL_cell.cls = RL ∧ yL_cell.cls ≠ "java/lang/invoke/MethodHandle" ∧ yL_cell.cls ≠ "java/lang/invoke/VarHandle" ∧ (parseMethodDescriptor yL_cell.desc).map (fun d => d.parameters.length) = some 2 := by decide +kernel
theorem m_L_cell (l : Launch) (D : va_G) (cI cJ cZ : ClassId) (b L : Nat) (xs : Nat → Int32) (k : Nat) (hk : k < 1000) (hL : L ≤ 260) : g_CtS l D cI cJ cZ b L xs yL_cell cL_cell 2 (some .int) rm_L_cell [.ref b, .int (nI k)] (g_eq (some (.int (clI xs L k))) []) := by
  refine g_bodyS RL [(0, .ref b), (1, .int (nI k))] kH_L rfl (Nat.le_of_ble_eq_true rfl) rfl ?_
  intro p e s m args below meth c A X hX hbl hbA hr hlk hmn Q hQ
  refine g_iload_n X 1 dL_cell_0 rfl rfl ?_
  refine g_aload_n X 0 dL_cell_1 rfl rfl ?_
  refine g_slen X hX hbl hbA dL_cell_2 ?_
  have J3 : ∀ (v2 : Int32), v2 = (if L ≤ k then nI (51361 * (k + 157) + 1781087) else xs k) → g_G p l e rm_L_cell s m args below meth c D A 2 0 0 Q ([]) [] 23 [.int v2] := by
    intro v2 ev2
    refine g_iret X hr hlk hQ dL_cell_23 ?_
    show g_eq _ _ _ _
    try rw [ev2]
    exact ⟨by rfl, rfl⟩
  refine g_icN_ge X (a := k) (b := L) (tgt := 12) (by omega) (by omega) dL_cell_3 (by decide) (fun h1 => ?_) (fun h1 => ?_)
  · --
    refine g_ldc X kN_L_7 dL_cell_12 (v' := nI 51361) (by decide +kernel) ?_
    refine g_iload_n X 1 dL_cell_14 rfl rfl ?_
    refine g_sipush X (v := nI 157) dL_cell_15 (by decide +kernel) ?_
    refine g_iadd X (v := nI (k + 157)) dL_cell_18 ((nI_add _ _).trans (congrArg nI (by omega))) ?_
    refine g_imul X (v := nI (51361 * (k + 157))) dL_cell_19 (pk_mul _ _) ?_
    refine g_ldc X kN_L_8 dL_cell_20 (v' := nI 1781087) (by decide +kernel) ?_
    refine g_iadd X (v := nI (51361 * (k + 157) + 1781087)) dL_cell_22 ((nI_add _ _).trans (congrArg nI (by omega))) ?_
    refine g_lv _ [] rfl ?_
    exact J3 _ (by rw [if_pos (c := L ≤ k) h1])
  · --
    refine g_aload_n X 0 dL_cell_6 rfl rfl ?_
    refine g_iload_n X 1 dL_cell_7 rfl rfl ?_
    refine g_sld X hX hbl hbA (k) rfl (by omega) (by omega) rfl dL_cell_8 ?_
    refine g_goto X (tgt := 23) dL_cell_9 (by decide) ?_
    refine g_lv _ [] rfl ?_
    exact J3 _ (by rw [if_neg (c := L ≤ k) h1])
