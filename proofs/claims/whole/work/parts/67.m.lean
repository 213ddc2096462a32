set_option maxRecDepth 100000 in
set_option maxHeartbeats 4000000 in
theorem n_X7_init_131 (l : Launch) (D : va_G) (cI cJ cZ : ClassId) (a : Nat) (h : Nat → Nat) (hga : h 0 = a) {p : Program} {e : Env} {s : State} {m : MethodId} {args : Array Value} {below : List Frame} {meth : Method} {c : Code} {A : Nat → Prop} {rm_X7_init : Room} (X : g_Cx p s m args c D A 2 cX7_init RX7 cI cJ cZ) (hr : meth.sig.returnType = none) (hlk : meth.locks = false) {Q : State → Prop} (hQ : MQ below (g_Post D A (fun v w => v = none ∧ ∃ g : Nat → Nat, g 0 = a ∧ w = wM g cI cJ cZ 0 iC zN iS zQ zQ zQ zS)) args s 16 796 A = Q) : g_G p l e rm_X7_init s m args below meth c D A 2 16 796 Q (wM h cI cJ cZ 0 zC zN zS zQ zQ zQ zS) [(0, .ref (h 0))] 131 [] := by
  refine g_iconst X (v := nI 0) dX7_init_131 (by decide +kernel) ?_
  refine g_istore_n X [(1, .int (nI 0)), (0, .ref (h 0))] dX7_init_132 rfl (Nat.le_of_ble_eq_true rfl) rfl ?_
  have L1 : ∀ (n3 i2 : Nat) (S4 : St) (C5 : Cf), i2 + n3 = 12 → S4 = itr iSs zS i2 → C5 = itr iCs zC i2 → g_G p l e rm_X7_init s m args below meth c D A 2 16 796 Q (wM h cI cJ cZ 0 C5 zN S4 zQ zQ zQ zS) [(0, .ref (h 0)), (1, .int (nI i2))] 133 [] := by
    intro n3
    induction n3 with
    | zero =>
      intro i2 S4 C5 hi6 eS4 eC5
      obtain rfl : i2 = 12 := by omega
      refine g_iload_n X 1 dX7_init_133 rfl rfl ?_
      refine g_bipush X (v := nI 12) dX7_init_134 (by decide +kernel) ?_
      refine g_icN_ge X (a := 12) (b := 12) (tgt := 184) (by omega) (by omega) dX7_init_136 (by decide) (fun h7 => ?_) (fun h7 => absurd h7 (by omega))
      refine g_vret X hr hlk hQ dX7_init_184 ?_
      subst eC5
      subst eS4
      exact ⟨rfl, h, hga, rfl⟩
    | succ n3 ihL1 =>
      intro i2 S4 C5 hi6 eS4 eC5
      have hlti2 : i2 < 12 := by omega
      refine g_iload_n X 1 dX7_init_133 rfl rfl ?_
      refine g_bipush X (v := nI 12) dX7_init_134 (by decide +kernel) ?_
      refine g_icN_ge X (a := i2) (b := 12) (tgt := 184) (by omega) (by omega) dX7_init_136 (by decide) (fun h8 => absurd h8 (by omega)) (fun h8 => ?_)
      refine g_aload_n X 0 dX7_init_139 rfl rfl ?_
      refine g_get X (C := RX7) (T := TX7) (N := 21) (v := .ref (h 1)) inlX7 0 rfl rfl 1 (Nat.le_of_ble_eq_true rfl) kF_X7_7 rfl dX7_init_140 ?_
      refine g_iconst X (v := nI 0) dX7_init_143 (by decide +kernel) ?_
      refine g_iload_n X 1 dX7_init_144 rfl rfl ?_
      refine g_iadd X (v := nI i2) dX7_init_145 ((nI_add _ _).trans (congrArg nI (by omega))) ?_
      refine g_ldc2 X kL_X7_60 dX7_init_146 ?_
      obtain ⟨S9, eS9⟩ : ∃ z : St, z = u2 S4 0 i2 (10000 : Int64) := ⟨_, rfl⟩
      refine g_last X (ws' := wM h cI cJ cZ 0 C5 zN S9 zQ zQ zQ zS) 1 rfl (0 + i2) (congrArg nI (show i2 = 0 + i2 by omega)) (by omega) (Nat.le_of_ble_eq_true rfl) dX7_init_149 (by rw [eS9]; first | done | (rw [flu_0 _ _ (i := i2) _ (by omega)]; rfl)) ?_
      refine g_aload_n X 0 dX7_init_150 rfl rfl ?_
      refine g_get X (C := RX7) (T := TX7) (N := 21) (v := .ref (h 1)) inlX7 0 rfl rfl 1 (Nat.le_of_ble_eq_true rfl) kF_X7_7 rfl dX7_init_151 ?_
      refine g_bipush X (v := nI 12) dX7_init_154 (by decide +kernel) ?_
      refine g_iload_n X 1 dX7_init_156 rfl rfl ?_
      refine g_iadd X (v := nI (i2 + 12)) dX7_init_157 ((nI_add _ _).trans (congrArg nI (by omega))) ?_
      refine g_ldc2 X kL_X7_62 dX7_init_158 ?_
      obtain ⟨S10, eS10⟩ : ∃ z : St, z = u2 S9 1 i2 (6000000 : Int64) := ⟨_, rfl⟩
      refine g_last X (ws' := wM h cI cJ cZ 0 C5 zN S10 zQ zQ zQ zS) 1 rfl (12 + i2) (congrArg nI (show i2 + 12 = 12 + i2 by omega)) (by omega) (Nat.le_of_ble_eq_true rfl) dX7_init_161 (by rw [eS10]; first | done | (rw [flu_1 _ _ (i := i2) _ (by omega)]; rfl)) ?_
      refine g_aload_n X 0 dX7_init_162 rfl rfl ?_
      refine g_get X (C := RX7) (T := TX7) (N := 21) (v := .ref (h 3)) inlX7 0 rfl rfl 3 (Nat.le_of_ble_eq_true rfl) kF_X7_16 rfl dX7_init_163 ?_
      refine g_iload_n X 1 dX7_init_166 rfl rfl ?_
      refine g_bipush X (v := nI 20) dX7_init_167 (by decide +kernel) ?_
      obtain ⟨C11, eC11⟩ : ∃ z : Cf, z = c2 C5 0 i2 (nI 20) := ⟨_, rfl⟩
      refine g_iast X (ws' := wM h cI cJ cZ 0 C11 zN S10 zQ zQ zQ zS) 3 rfl (i2) rfl (by omega) (Nat.le_of_ble_eq_true rfl) dX7_init_169 (by rw [eC11]; first | done | (rfl)) ?_
      refine g_aload_n X 0 dX7_init_170 rfl rfl ?_
      refine g_get X (C := RX7) (T := TX7) (N := 21) (v := .ref (h 4)) inlX7 0 rfl rfl 4 (Nat.le_of_ble_eq_true rfl) kF_X7_20 rfl dX7_init_171 ?_
      refine g_iload_n X 1 dX7_init_174 rfl rfl ?_
      refine g_bipush X (v := nI 20) dX7_init_175 (by decide +kernel) ?_
      obtain ⟨C12, eC12⟩ : ∃ z : Cf, z = c2 C11 1 i2 (nI 20) := ⟨_, rfl⟩
      refine g_iast X (ws' := wM h cI cJ cZ 0 C12 zN S10 zQ zQ zQ zS) 4 rfl (i2) rfl (by omega) (Nat.le_of_ble_eq_true rfl) dX7_init_177 (by rw [eC12]; first | done | (rfl)) ?_
      refine g_iinc X [(1, .int (nI (i2 + 1))), (0, .ref (h 0))] (q := 1) (v := nI (i2 + 1)) dX7_init_178 rfl ((congrArg (fun z => nI (i2) + z) (show Int32.ofInt 1 = nI 1 by decide +kernel)).trans ((nI_add _ _).trans (congrArg nI (by omega)))) (Nat.le_of_ble_eq_true rfl) rfl ?_
      refine g_goto X (tgt := 133) dX7_init_181 (by decide) ?_
      refine g_lv _ [1, 0] rfl ?_
      exact ihL1 (i2 + 1) _ _ (by omega) (by (try rw [eC12]); (try rw [eC11]); (try rw [eS10]); (try rw [eS9]); (try rw [eC5]); (try rw [eS4]); first | done | (rfl)) (by (try rw [eC12]); (try rw [eC11]); (try rw [eS10]); (try rw [eS9]); (try rw [eC5]); (try rw [eS4]); first | done | (rfl))
  refine g_lv _ [1, 0] rfl ?_
  exact L1 (12) 0 _ _ (by omega) (by first | rfl | (first | done | rfl)) (by first | rfl | (first | done | rfl))
theorem hV_X7_init : yX7_init.cls = RX7 ∧ yX7_init.cls ≠ "java/lang/invoke/MethodHandle" ∧ yX7_init.cls ≠ "java/lang/invoke/VarHandle" ∧ (parseMethodDescriptor yX7_init.desc).map (fun d => d.parameters.length) = some 0 := by decide +kernel
abbrev rm_X7_init : Room := { frames := 1, cells := 16, slots := 796, locals := 24 }
set_option maxRecDepth 100000 in
set_option maxHeartbeats 20000000 in
theorem m_X7_init (l : Launch) (D : va_G) (cI cJ cZ : ClassId) (a : Nat) : g_Ct l D cI cJ cZ yX7_init cX7_init 2 none rm_X7_init 16 796 [.ref a] ([(a, .inr (7, [.int 0, .null, .null, .null, .null, .int 0, .int 0, .null, .null, .null, .null, .int 0, .null, .null, .int 0, .null, .null, .null, .null, .null, .null]))]) (fun v w => v = none ∧ ∃ g : Nat → Nat, g 0 = a ∧ w = wM g cI cJ cZ 0 iC zN iS zQ zQ zQ zS) := by
  refine g_body RX7 [(0, .ref a)] kH_X7 rfl (Nat.le_of_ble_eq_true rfl) rfl ?_
  intro p e s m args below meth c A X hr hlk hmn Q hQ
  refine g_aload_n X 0 dX7_init_0 rfl rfl ?_
  refine g_obj X kM_X7_1 dX7_init_1 (Nat.le_of_ble_eq_true rfl) (Nat.le_of_ble_eq_true rfl) ?_
  refine g_aload_n X 0 dX7_init_4 rfl rfl ?_
  refine g_sipush X (v := nI 336) dX7_init_5 (by decide +kernel) ?_
  refine g_newaJ X 336 rfl (Nat.le_of_ble_eq_true rfl) (Nat.le_of_ble_eq_true rfl) (Nat.le_of_ble_eq_true rfl) dX7_init_8 (fun q1 => ?_)
  refine g_putF X (C := RX7) (T := TX7) (N := 21) (ws' := [(a, .inr (7, [.int 0, .ref q1, .null, .null, .null, .int 0, .int 0, .null, .null, .null, .null, .int 0, .null, .null, .int 0, .null, .null, .null, .null, .null, .null])), (q1, .inl (cJ, 336, .inr (.inl (fun _ => 0))))]) inlX7 tyX7 tyX7_ok nmX7 hmn 0 rfl rfl 1 (Nat.le_of_ble_eq_true rfl) kF_X7_7 rfl rfl rfl rfl (Nat.le_of_ble_eq_true rfl) dX7_init_10 rfl ?_
  refine g_aload_n X 0 dX7_init_13 rfl rfl ?_
  refine g_sipush X (v := nI 336) dX7_init_14 (by decide +kernel) ?_
  refine g_newaJ X 336 rfl (Nat.le_of_ble_eq_true rfl) (Nat.le_of_ble_eq_true rfl) (Nat.le_of_ble_eq_true rfl) dX7_init_17 (fun q2 => ?_)
  refine g_putF X (C := RX7) (T := TX7) (N := 21) (ws' := [(a, .inr (7, [.int 0, .ref q1, .ref q2, .null, .null, .int 0, .int 0, .null, .null, .null, .null, .int 0, .null, .null, .int 0, .null, .null, .null, .null, .null, .null])), (q1, .inl (cJ, 336, .inr (.inl (fun _ => 0)))), (q2, .inl (cJ, 336, .inr (.inl (fun _ => 0))))]) inlX7 tyX7 tyX7_ok nmX7 hmn 0 rfl rfl 2 (Nat.le_of_ble_eq_true rfl) kF_X7_13 rfl rfl rfl rfl (Nat.le_of_ble_eq_true rfl) dX7_init_19 rfl ?_
  refine g_aload_n X 0 dX7_init_22 rfl rfl ?_
  refine g_bipush X (v := nI 12) dX7_init_23 (by decide +kernel) ?_
  refine g_newaI X 12 rfl (Nat.le_of_ble_eq_true rfl) (Nat.le_of_ble_eq_true rfl) (Nat.le_of_ble_eq_true rfl) dX7_init_25 (fun q3 => ?_)
  refine g_putF X (C := RX7) (T := TX7) (N := 21) (ws' := [(a, .inr (7, [.int 0, .ref q1, .ref q2, .ref q3, .null, .int 0, .int 0, .null, .null, .null, .null, .int 0, .null, .null, .int 0, .null, .null, .null, .null, .null, .null])), (q1, .inl (cJ, 336, .inr (.inl (fun _ => 0)))), (q2, .inl (cJ, 336, .inr (.inl (fun _ => 0)))), (q3, .inl (cI, 12, .inl (fun _ => 0)))]) inlX7 tyX7 tyX7_ok nmX7 hmn 0 rfl rfl 3 (Nat.le_of_ble_eq_true rfl) kF_X7_16 rfl rfl rfl rfl (Nat.le_of_ble_eq_true rfl) dX7_init_27 rfl ?_
  refine g_aload_n X 0 dX7_init_30 rfl rfl ?_
  refine g_bipush X (v := nI 12) dX7_init_31 (by decide +kernel) ?_
  refine g_newaI X 12 rfl (Nat.le_of_ble_eq_true rfl) (Nat.le_of_ble_eq_true rfl) (Nat.le_of_ble_eq_true rfl) dX7_init_33 (fun q4 => ?_)
  refine g_putF X (C := RX7) (T := TX7) (N := 21) (ws' := [(a, .inr (7, [.int 0, .ref q1, .ref q2, .ref q3, .ref q4, .int 0, .int 0, .null, .null, .null, .null, .int 0, .null, .null, .int 0, .null, .null, .null, .null, .null, .null])), (q1, .inl (cJ, 336, .inr (.inl (fun _ => 0)))), (q2, .inl (cJ, 336, .inr (.inl (fun _ => 0)))), (q3, .inl (cI, 12, .inl (fun _ => 0))), (q4, .inl (cI, 12, .inl (fun _ => 0)))]) inlX7 tyX7 tyX7_ok nmX7 hmn 0 rfl rfl 4 (Nat.le_of_ble_eq_true rfl) kF_X7_20 rfl rfl rfl rfl (Nat.le_of_ble_eq_true rfl) dX7_init_35 rfl ?_
  refine g_aload_n X 0 dX7_init_38 rfl rfl ?_
  refine g_bipush X (v := nI 10) dX7_init_39 (by decide +kernel) ?_
  refine g_newaI X 10 rfl (Nat.le_of_ble_eq_true rfl) (Nat.le_of_ble_eq_true rfl) (Nat.le_of_ble_eq_true rfl) dX7_init_41 (fun q5 => ?_)
  refine g_putF X (C := RX7) (T := TX7) (N := 21) (ws' := [(a, .inr (7, [.int 0, .ref q1, .ref q2, .ref q3, .ref q4, .int 0, .int 0, .ref q5, .null, .null, .null, .int 0, .null, .null, .int 0, .null, .null, .null, .null, .null, .null])), (q1, .inl (cJ, 336, .inr (.inl (fun _ => 0)))), (q2, .inl (cJ, 336, .inr (.inl (fun _ => 0)))), (q3, .inl (cI, 12, .inl (fun _ => 0))), (q4, .inl (cI, 12, .inl (fun _ => 0))), (q5, .inl (cI, 10, .inl (fun _ => 0)))]) inlX7 tyX7 tyX7_ok nmX7 hmn 0 rfl rfl 7 (Nat.le_of_ble_eq_true rfl) kF_X7_23 rfl rfl rfl rfl (Nat.le_of_ble_eq_true rfl) dX7_init_43 rfl ?_
  refine g_aload_n X 0 dX7_init_46 rfl rfl ?_
  refine g_bipush X (v := nI 10) dX7_init_47 (by decide +kernel) ?_
  refine g_newaZ X 10 rfl (Nat.le_of_ble_eq_true rfl) (Nat.le_of_ble_eq_true rfl) (Nat.le_of_ble_eq_true rfl) dX7_init_49 (fun q6 => ?_)
  refine g_putF X (C := RX7) (T := TX7) (N := 21) (ws' := [(a, .inr (7, [.int 0, .ref q1, .ref q2, .ref q3, .ref q4, .int 0, .int 0, .ref q5, .ref q6, .null, .null, .int 0, .null, .null, .int 0, .null, .null, .null, .null, .null, .null])), (q1, .inl (cJ, 336, .inr (.inl (fun _ => 0)))), (q2, .inl (cJ, 336, .inr (.inl (fun _ => 0)))), (q3, .inl (cI, 12, .inl (fun _ => 0))), (q4, .inl (cI, 12, .inl (fun _ => 0))), (q5, .inl (cI, 10, .inl (fun _ => 0))), (q6, .inl (cZ, 10, .inl (fun _ => 0)))]) inlX7 tyX7 tyX7_ok nmX7 hmn 0 rfl rfl 8 (Nat.le_of_ble_eq_true rfl) kF_X7_26 rfl rfl rfl rfl (Nat.le_of_ble_eq_true rfl) dX7_init_51 rfl ?_
  refine g_aload_n X 0 dX7_init_54 rfl rfl ?_
  refine g_bipush X (v := nI 10) dX7_init_55 (by decide +kernel) ?_
  refine g_newaI X 10 rfl (Nat.le_of_ble_eq_true rfl) (Nat.le_of_ble_eq_true rfl) (Nat.le_of_ble_eq_true rfl) dX7_init_57 (fun q7 => ?_)
  refine g_putF X (C := RX7) (T := TX7) (N := 21) (ws' := [(a, .inr (7, [.int 0, .ref q1, .ref q2, .ref q3, .ref q4, .int 0, .int 0, .ref q5, .ref q6, .ref q7, .null, .int 0, .null, .null, .int 0, .null, .null, .null, .null, .null, .null])), (q1, .inl (cJ, 336, .inr (.inl (fun _ => 0)))), (q2, .inl (cJ, 336, .inr (.inl (fun _ => 0)))), (q3, .inl (cI, 12, .inl (fun _ => 0))), (q4, .inl (cI, 12, .inl (fun _ => 0))), (q5, .inl (cI, 10, .inl (fun _ => 0))), (q6, .inl (cZ, 10, .inl (fun _ => 0))), (q7, .inl (cI, 10, .inl (fun _ => 0)))]) inlX7 tyX7 tyX7_ok nmX7 hmn 0 rfl rfl 9 (Nat.le_of_ble_eq_true rfl) kF_X7_30 rfl rfl rfl rfl (Nat.le_of_ble_eq_true rfl) dX7_init_59 rfl ?_
  refine g_aload_n X 0 dX7_init_62 rfl rfl ?_
  refine g_bipush X (v := nI 10) dX7_init_63 (by decide +kernel) ?_
  refine g_newaJ X 10 rfl (Nat.le_of_ble_eq_true rfl) (Nat.le_of_ble_eq_true rfl) (Nat.le_of_ble_eq_true rfl) dX7_init_65 (fun q8 => ?_)
  refine g_putF X (C := RX7) (T := TX7) (N := 21) (ws' := [(a, .inr (7, [.int 0, .ref q1, .ref q2, .ref q3, .ref q4, .int 0, .int 0, .ref q5, .ref q6, .ref q7, .ref q8, .int 0, .null, .null, .int 0, .null, .null, .null, .null, .null, .null])), (q1, .inl (cJ, 336, .inr (.inl (fun _ => 0)))), (q2, .inl (cJ, 336, .inr (.inl (fun _ => 0)))), (q3, .inl (cI, 12, .inl (fun _ => 0))), (q4, .inl (cI, 12, .inl (fun _ => 0))), (q5, .inl (cI, 10, .inl (fun _ => 0))), (q6, .inl (cZ, 10, .inl (fun _ => 0))), (q7, .inl (cI, 10, .inl (fun _ => 0))), (q8, .inl (cJ, 10, .inr (.inl (fun _ => 0))))]) inlX7 tyX7 tyX7_ok nmX7 hmn 0 rfl rfl 10 (Nat.le_of_ble_eq_true rfl) kF_X7_33 rfl rfl rfl rfl (Nat.le_of_ble_eq_true rfl) dX7_init_67 rfl ?_
  refine g_aload_n X 0 dX7_init_70 rfl rfl ?_
  refine g_bipush X (v := nI 6) dX7_init_71 (by decide +kernel) ?_
  refine g_newaI X 6 rfl (Nat.le_of_ble_eq_true rfl) (Nat.le_of_ble_eq_true rfl) (Nat.le_of_ble_eq_true rfl) dX7_init_73 (fun q9 => ?_)
  refine g_putF X (C := RX7) (T := TX7) (N := 21) (ws' := [(a, .inr (7, [.int 0, .ref q1, .ref q2, .ref q3, .ref q4, .int 0, .int 0, .ref q5, .ref q6, .ref q7, .ref q8, .int 0, .ref q9, .null, .int 0, .null, .null, .null, .null, .null, .null])), (q1, .inl (cJ, 336, .inr (.inl (fun _ => 0)))), (q2, .inl (cJ, 336, .inr (.inl (fun _ => 0)))), (q3, .inl (cI, 12, .inl (fun _ => 0))), (q4, .inl (cI, 12, .inl (fun _ => 0))), (q5, .inl (cI, 10, .inl (fun _ => 0))), (q6, .inl (cZ, 10, .inl (fun _ => 0))), (q7, .inl (cI, 10, .inl (fun _ => 0))), (q8, .inl (cJ, 10, .inr (.inl (fun _ => 0)))), (q9, .inl (cI, 6, .inl (fun _ => 0)))]) inlX7 tyX7 tyX7_ok nmX7 hmn 0 rfl rfl 12 (Nat.le_of_ble_eq_true rfl) kF_X7_36 rfl rfl rfl rfl (Nat.le_of_ble_eq_true rfl) dX7_init_75 rfl ?_
  refine g_aload_n X 0 dX7_init_78 rfl rfl ?_
  refine g_bipush X (v := nI 6) dX7_init_79 (by decide +kernel) ?_
  refine g_newaI X 6 rfl (Nat.le_of_ble_eq_true rfl) (Nat.le_of_ble_eq_true rfl) (Nat.le_of_ble_eq_true rfl) dX7_init_81 (fun q10 => ?_)
  refine g_putF X (C := RX7) (T := TX7) (N := 21) (ws' := [(a, .inr (7, [.int 0, .ref q1, .ref q2, .ref q3, .ref q4, .int 0, .int 0, .ref q5, .ref q6, .ref q7, .ref q8, .int 0, .ref q9, .ref q10, .int 0, .null, .null, .null, .null, .null, .null])), (q1, .inl (cJ, 336, .inr (.inl (fun _ => 0)))), (q2, .inl (cJ, 336, .inr (.inl (fun _ => 0)))), (q3, .inl (cI, 12, .inl (fun _ => 0))), (q4, .inl (cI, 12, .inl (fun _ => 0))), (q5, .inl (cI, 10, .inl (fun _ => 0))), (q6, .inl (cZ, 10, .inl (fun _ => 0))), (q7, .inl (cI, 10, .inl (fun _ => 0))), (q8, .inl (cJ, 10, .inr (.inl (fun _ => 0)))), (q9, .inl (cI, 6, .inl (fun _ => 0))), (q10, .inl (cI, 6, .inl (fun _ => 0)))]) inlX7 tyX7 tyX7_ok nmX7 hmn 0 rfl rfl 13 (Nat.le_of_ble_eq_true rfl) kF_X7_39 rfl rfl rfl rfl (Nat.le_of_ble_eq_true rfl) dX7_init_83 rfl ?_
  refine g_aload_n X 0 dX7_init_86 rfl rfl ?_
  refine g_iconst X (v := nI 4) dX7_init_87 (by decide +kernel) ?_
  refine g_newaI X 4 rfl (Nat.le_of_ble_eq_true rfl) (Nat.le_of_ble_eq_true rfl) (Nat.le_of_ble_eq_true rfl) dX7_init_88 (fun q11 => ?_)
  refine g_putF X (C := RX7) (T := TX7) (N := 21) (ws' := [(a, .inr (7, [.int 0, .ref q1, .ref q2, .ref q3, .ref q4, .int 0, .int 0, .ref q5, .ref q6, .ref q7, .ref q8, .int 0, .ref q9, .ref q10, .int 0, .ref q11, .null, .null, .null, .null, .null])), (q1, .inl (cJ, 336, .inr (.inl (fun _ => 0)))), (q2, .inl (cJ, 336, .inr (.inl (fun _ => 0)))), (q3, .inl (cI, 12, .inl (fun _ => 0))), (q4, .inl (cI, 12, .inl (fun _ => 0))), (q5, .inl (cI, 10, .inl (fun _ => 0))), (q6, .inl (cZ, 10, .inl (fun _ => 0))), (q7, .inl (cI, 10, .inl (fun _ => 0))), (q8, .inl (cJ, 10, .inr (.inl (fun _ => 0)))), (q9, .inl (cI, 6, .inl (fun _ => 0))), (q10, .inl (cI, 6, .inl (fun _ => 0))), (q11, .inl (cI, 4, .inl (fun _ => 0)))]) inlX7 tyX7 tyX7_ok nmX7 hmn 0 rfl rfl 15 (Nat.le_of_ble_eq_true rfl) kF_X7_42 rfl rfl rfl rfl (Nat.le_of_ble_eq_true rfl) dX7_init_90 rfl ?_
  refine g_aload_n X 0 dX7_init_93 rfl rfl ?_
  refine g_iconst X (v := nI 4) dX7_init_94 (by decide +kernel) ?_
  refine g_newaI X 4 rfl (Nat.le_of_ble_eq_true rfl) (Nat.le_of_ble_eq_true rfl) (Nat.le_of_ble_eq_true rfl) dX7_init_95 (fun q12 => ?_)
  refine g_putF X (C := RX7) (T := TX7) (N := 21) (ws' := [(a, .inr (7, [.int 0, .ref q1, .ref q2, .ref q3, .ref q4, .int 0, .int 0, .ref q5, .ref q6, .ref q7, .ref q8, .int 0, .ref q9, .ref q10, .int 0, .ref q11, .ref q12, .null, .null, .null, .null])), (q1, .inl (cJ, 336, .inr (.inl (fun _ => 0)))), (q2, .inl (cJ, 336, .inr (.inl (fun _ => 0)))), (q3, .inl (cI, 12, .inl (fun _ => 0))), (q4, .inl (cI, 12, .inl (fun _ => 0))), (q5, .inl (cI, 10, .inl (fun _ => 0))), (q6, .inl (cZ, 10, .inl (fun _ => 0))), (q7, .inl (cI, 10, .inl (fun _ => 0))), (q8, .inl (cJ, 10, .inr (.inl (fun _ => 0)))), (q9, .inl (cI, 6, .inl (fun _ => 0))), (q10, .inl (cI, 6, .inl (fun _ => 0))), (q11, .inl (cI, 4, .inl (fun _ => 0))), (q12, .inl (cI, 4, .inl (fun _ => 0)))]) inlX7 tyX7 tyX7_ok nmX7 hmn 0 rfl rfl 16 (Nat.le_of_ble_eq_true rfl) kF_X7_45 rfl rfl rfl rfl (Nat.le_of_ble_eq_true rfl) dX7_init_97 rfl ?_
  refine g_aload_n X 0 dX7_init_100 rfl rfl ?_
  refine g_iconst X (v := nI 4) dX7_init_101 (by decide +kernel) ?_
  refine g_newaI X 4 rfl (Nat.le_of_ble_eq_true rfl) (Nat.le_of_ble_eq_true rfl) (Nat.le_of_ble_eq_true rfl) dX7_init_102 (fun q13 => ?_)
  refine g_putF X (C := RX7) (T := TX7) (N := 21) (ws' := [(a, .inr (7, [.int 0, .ref q1, .ref q2, .ref q3, .ref q4, .int 0, .int 0, .ref q5, .ref q6, .ref q7, .ref q8, .int 0, .ref q9, .ref q10, .int 0, .ref q11, .ref q12, .ref q13, .null, .null, .null])), (q1, .inl (cJ, 336, .inr (.inl (fun _ => 0)))), (q2, .inl (cJ, 336, .inr (.inl (fun _ => 0)))), (q3, .inl (cI, 12, .inl (fun _ => 0))), (q4, .inl (cI, 12, .inl (fun _ => 0))), (q5, .inl (cI, 10, .inl (fun _ => 0))), (q6, .inl (cZ, 10, .inl (fun _ => 0))), (q7, .inl (cI, 10, .inl (fun _ => 0))), (q8, .inl (cJ, 10, .inr (.inl (fun _ => 0)))), (q9, .inl (cI, 6, .inl (fun _ => 0))), (q10, .inl (cI, 6, .inl (fun _ => 0))), (q11, .inl (cI, 4, .inl (fun _ => 0))), (q12, .inl (cI, 4, .inl (fun _ => 0))), (q13, .inl (cI, 4, .inl (fun _ => 0)))]) inlX7 tyX7 tyX7_ok nmX7 hmn 0 rfl rfl 17 (Nat.le_of_ble_eq_true rfl) kF_X7_48 rfl rfl rfl rfl (Nat.le_of_ble_eq_true rfl) dX7_init_104 rfl ?_
  refine g_aload_n X 0 dX7_init_107 rfl rfl ?_
  refine g_bipush X (v := nI 12) dX7_init_108 (by decide +kernel) ?_
  refine g_newaJ X 12 rfl (Nat.le_of_ble_eq_true rfl) (Nat.le_of_ble_eq_true rfl) (Nat.le_of_ble_eq_true rfl) dX7_init_110 (fun q14 => ?_)
  refine g_putF X (C := RX7) (T := TX7) (N := 21) (ws' := [(a, .inr (7, [.int 0, .ref q1, .ref q2, .ref q3, .ref q4, .int 0, .int 0, .ref q5, .ref q6, .ref q7, .ref q8, .int 0, .ref q9, .ref q10, .int 0, .ref q11, .ref q12, .ref q13, .ref q14, .null, .null])), (q1, .inl (cJ, 336, .inr (.inl (fun _ => 0)))), (q2, .inl (cJ, 336, .inr (.inl (fun _ => 0)))), (q3, .inl (cI, 12, .inl (fun _ => 0))), (q4, .inl (cI, 12, .inl (fun _ => 0))), (q5, .inl (cI, 10, .inl (fun _ => 0))), (q6, .inl (cZ, 10, .inl (fun _ => 0))), (q7, .inl (cI, 10, .inl (fun _ => 0))), (q8, .inl (cJ, 10, .inr (.inl (fun _ => 0)))), (q9, .inl (cI, 6, .inl (fun _ => 0))), (q10, .inl (cI, 6, .inl (fun _ => 0))), (q11, .inl (cI, 4, .inl (fun _ => 0))), (q12, .inl (cI, 4, .inl (fun _ => 0))), (q13, .inl (cI, 4, .inl (fun _ => 0))), (q14, .inl (cJ, 12, .inr (.inl (fun _ => 0))))]) inlX7 tyX7 tyX7_ok nmX7 hmn 0 rfl rfl 18 (Nat.le_of_ble_eq_true rfl) kF_X7_51 rfl rfl rfl rfl (Nat.le_of_ble_eq_true rfl) dX7_init_112 rfl ?_
  refine g_aload_n X 0 dX7_init_115 rfl rfl ?_
  refine g_bipush X (v := nI 12) dX7_init_116 (by decide +kernel) ?_
  refine g_newaJ X 12 rfl (Nat.le_of_ble_eq_true rfl) (Nat.le_of_ble_eq_true rfl) (Nat.le_of_ble_eq_true rfl) dX7_init_118 (fun q15 => ?_)
  refine g_putF X (C := RX7) (T := TX7) (N := 21) (ws' := [(a, .inr (7, [.int 0, .ref q1, .ref q2, .ref q3, .ref q4, .int 0, .int 0, .ref q5, .ref q6, .ref q7, .ref q8, .int 0, .ref q9, .ref q10, .int 0, .ref q11, .ref q12, .ref q13, .ref q14, .ref q15, .null])), (q1, .inl (cJ, 336, .inr (.inl (fun _ => 0)))), (q2, .inl (cJ, 336, .inr (.inl (fun _ => 0)))), (q3, .inl (cI, 12, .inl (fun _ => 0))), (q4, .inl (cI, 12, .inl (fun _ => 0))), (q5, .inl (cI, 10, .inl (fun _ => 0))), (q6, .inl (cZ, 10, .inl (fun _ => 0))), (q7, .inl (cI, 10, .inl (fun _ => 0))), (q8, .inl (cJ, 10, .inr (.inl (fun _ => 0)))), (q9, .inl (cI, 6, .inl (fun _ => 0))), (q10, .inl (cI, 6, .inl (fun _ => 0))), (q11, .inl (cI, 4, .inl (fun _ => 0))), (q12, .inl (cI, 4, .inl (fun _ => 0))), (q13, .inl (cI, 4, .inl (fun _ => 0))), (q14, .inl (cJ, 12, .inr (.inl (fun _ => 0)))), (q15, .inl (cJ, 12, .inr (.inl (fun _ => 0))))]) inlX7 tyX7 tyX7_ok nmX7 hmn 0 rfl rfl 19 (Nat.le_of_ble_eq_true rfl) kF_X7_54 rfl rfl rfl rfl (Nat.le_of_ble_eq_true rfl) dX7_init_120 rfl ?_
  refine g_aload_n X 0 dX7_init_123 rfl rfl ?_
  refine g_bipush X (v := nI 12) dX7_init_124 (by decide +kernel) ?_
  refine g_newaJ X 12 rfl (Nat.le_of_ble_eq_true rfl) (Nat.le_of_ble_eq_true rfl) (Nat.le_of_ble_eq_true rfl) dX7_init_126 (fun q16 => ?_)
  refine g_putF X (C := RX7) (T := TX7) (N := 21) (ws' := [(a, .inr (7, [.int 0, .ref q1, .ref q2, .ref q3, .ref q4, .int 0, .int 0, .ref q5, .ref q6, .ref q7, .ref q8, .int 0, .ref q9, .ref q10, .int 0, .ref q11, .ref q12, .ref q13, .ref q14, .ref q15, .ref q16])), (q1, .inl (cJ, 336, .inr (.inl (fun _ => 0)))), (q2, .inl (cJ, 336, .inr (.inl (fun _ => 0)))), (q3, .inl (cI, 12, .inl (fun _ => 0))), (q4, .inl (cI, 12, .inl (fun _ => 0))), (q5, .inl (cI, 10, .inl (fun _ => 0))), (q6, .inl (cZ, 10, .inl (fun _ => 0))), (q7, .inl (cI, 10, .inl (fun _ => 0))), (q8, .inl (cJ, 10, .inr (.inl (fun _ => 0)))), (q9, .inl (cI, 6, .inl (fun _ => 0))), (q10, .inl (cI, 6, .inl (fun _ => 0))), (q11, .inl (cI, 4, .inl (fun _ => 0))), (q12, .inl (cI, 4, .inl (fun _ => 0))), (q13, .inl (cI, 4, .inl (fun _ => 0))), (q14, .inl (cJ, 12, .inr (.inl (fun _ => 0)))), (q15, .inl (cJ, 12, .inr (.inl (fun _ => 0)))), (q16, .inl (cJ, 12, .inr (.inl (fun _ => 0))))]) inlX7 tyX7 tyX7_ok nmX7 hmn 0 rfl rfl 20 (Nat.le_of_ble_eq_true rfl) kF_X7_57 rfl rfl rfl rfl (Nat.le_of_ble_eq_true rfl) dX7_init_128 rfl ?_
  obtain ⟨h, hg⟩ : ∃ g : Nat → Nat, g = gof [a, q1, q2, q3, q4, q5, q6, q7, q8, q9, q10, q11, q12, q13, q14, q15, q16] := ⟨_, rfl⟩
  have hga : h 0 = a := by rw [hg]; rfl
  refine g_ws (ws' := wM h cI cJ cZ 0 zC zN zS zQ zQ zQ zS) (by rw [hg]; unfold wM; rw [fl_z]; rfl) ?_
  refine g_lvq (lv' := [(0, .ref (h 0))]) (by rw [hga]) ?_
  exact n_X7_init_131 l D cI cJ cZ a h hga X hr hlk hQ
