def gF (a : Nat) (g1 g2 g3 g4 g5 : Nat → Nat) (q : Nat) : Nat → Nat := fun i => if i = 0 then a else if i < 11 then g1 (i - 1) else if i < 20 then g2 (i - 11) else if i < 23 then g3 (i - 20) else if i < 30 then g4 (i - 23) else if i < 34 then g5 (i - 30) else q
def xF (a : Nat) (f1 f2 : Nat → Nat) : Nat → Nat := fun i => if i = 0 then a else if i < 36 then f1 (i - 1) else f2 (i - 36)
def wX2 (x : Nat → Nat) (cI cJ cZ : ClassId) (C : Cf) (N : Nat → Nat) (S : St) (Qk : Nat → Int64) (Z : St) (lC : Cf) (lN : Nat → Nat) (lS : St) (lQk : Nat → Int64) (lZ : St) : va_W := (x 0, .inr (6, [.ref (x 1), .ref (x 36)])) :: (wF (fun i => x (1 + i)) cI cJ cZ C N S Qk Z ++ wF (fun i => x (36 + i)) cI cJ cZ lC lN lS lQk lZ)

theorem hV_X0_init : yX0_init.cls = RX0 ∧ yX0_init.cls ≠ "java/lang/invoke/MethodHandle" ∧ yX0_init.cls ≠ "java/lang/invoke/VarHandle" ∧ (parseMethodDescriptor yX0_init.desc).map (fun d => d.parameters.length) = some 0 := by decide +kernel
abbrev rm_X0_init : Room := { frames := 2, cells := 34, slots := 480, locals := 45 }
set_option maxRecDepth 100000 in
set_option maxHeartbeats 4000000 in
theorem m_X0_init (l : Launch) (D : va_G) (cI cJ cZ : ClassId) (a : Nat) : g_Ct l D cI cJ cZ yX0_init cX0_init 1 none rm_X0_init 34 480 [.ref a] ([(a, .inr (0, [.int 0, .int 0, .null, .null, .null, .null, .null, .null, .long 0, .long 0, .long 0]))]) (fun v w => v = none ∧ ∃ g : Nat → Nat, g 0 = a ∧ w = wF g cI cJ cZ iC zN iS zQ zS) := by
  refine g_body RX0 [(0, .ref a)] kH_X0 rfl (Nat.le_of_ble_eq_true rfl) rfl ?_
  intro p e s m args below meth c A X hr hlk hmn Q hQ
  refine g_aload_n X 0 dX0_init_0 rfl rfl ?_
  refine g_obj X kM_X0_3 dX0_init_1 (Nat.le_of_ble_eq_true rfl) (Nat.le_of_ble_eq_true rfl) ?_
  refine g_aload_n X 0 dX0_init_4 rfl rfl ?_
  refine g_iconst X (v := (zS 13 0).toInt32) dX0_init_5 (by decide +kernel) ?_
  refine g_put X (C := RX0) (T := TX0) (N := 11) (ws' := [(a, .inr (0, [.int ((zS 13 0).toInt32), .int 0, .null, .null, .null, .null, .null, .null, .long 0, .long 0, .long 0]))]) inlX0 tyX0 tyX0_ok nmX0 0 rfl rfl 0 (Nat.le_of_ble_eq_true rfl) kF_X0_9 rfl rfl rfl (Nat.le_of_ble_eq_true rfl) dX0_init_6 rfl ?_
  refine g_aload_n X 0 dX0_init_9 rfl rfl ?_
  refine g_iconst X (v := zC 10 0) dX0_init_10 (by decide +kernel) ?_
  refine g_put X (C := RX0) (T := TX0) (N := 11) (ws' := [(a, .inr (0, [.int ((zS 13 0).toInt32), .int (zC 10 0), .null, .null, .null, .null, .null, .null, .long 0, .long 0, .long 0]))]) inlX0 tyX0 tyX0_ok nmX0 0 rfl rfl 1 (Nat.le_of_ble_eq_true rfl) kF_X0_15 rfl rfl rfl (Nat.le_of_ble_eq_true rfl) dX0_init_11 rfl ?_
  refine g_aload_n X 0 dX0_init_14 rfl rfl ?_
  refine g_new X inlX1 tyX1 tyX1_ok kQ_X0_18 kB_RX1 kZ_RX1 (ci := 1) rfl [.null, .null, .null, .null, .null, .null, .null, .null, .null] (by decide +kernel) (Nat.le_of_ble_eq_true rfl) (Nat.le_of_ble_eq_true rfl) dX0_init_15 (fun q1 => ?_)
  refine g_dup X dX0_init_18 rfl ?_
  refine g_callI (ret := none) X (As := []) (rest := [.ref q1, .ref a]) (m_X1_init l D cI cJ cZ q1) kM_X0_20 kI_yX1_init kZ_RX1 kC_yX1_init rfl hV_X1_init.2 rfl rfl rfl ⟨Nat.le_of_ble_eq_true rfl, Nat.le_of_ble_eq_true rfl⟩ ⟨Nat.le_of_ble_eq_true rfl, Nat.le_of_ble_eq_true rfl⟩ (Nat.le_of_ble_eq_true rfl) dX0_init_19 rfl [1] rfl rfl (fun v w hv => ?_)
  obtain ⟨rfl, gq1, hgq1, rfl⟩ := hv
  subst hgq1
  refine ⟨[(a, .inr (0, [.int ((zS 13 0).toInt32), .int (zC 10 0), .null, .null, .null, .null, .null, .null, .long 0, .long 0, .long 0]))] ++ wG gq1 cI cJ iC iS zS, ⟨[1], [0], [0, 1, 2, 3, 4, 5, 6, 7, 8, 9, 10], ([0].filterMap fun i => ([(a, .inr (0, [.int ((zS 13 0).toInt32), .int (zC 10 0), .null, .null, .null, .null, .null, .null, .long 0, .long 0, .long 0]))] ++ [(gq1 0, .inr (1, [.null, .null, .null, .null, .null, .null, .null, .null, .null]))])[i]?), rfl, rfl, rfl, rfl, by decide, rfl, by decide +kernel⟩, ?_⟩
  refine g_putF X (C := RX0) (T := TX0) (N := 11) (ws' := [(a, .inr (0, [.int ((zS 13 0).toInt32), .int (zC 10 0), .ref (gq1 0), .null, .null, .null, .null, .null, .long 0, .long 0, .long 0]))] ++ wG gq1 cI cJ iC iS zS) inlX0 tyX0 tyX0_ok nmX0 hmn 0 rfl rfl 2 (Nat.le_of_ble_eq_true rfl) kF_X0_21 rfl rfl rfl rfl (Nat.le_of_ble_eq_true rfl) dX0_init_22 rfl ?_
  refine g_aload_n X 0 dX0_init_25 rfl rfl ?_
  refine g_new X inlX5 tyX5 tyX5_ok kQ_X0_25 kB_RX5 kZ_RX5 (ci := 5) rfl [.int 0, .null, .null, .null, .null, .null, .null, .null, .null] (by decide +kernel) (Nat.le_of_ble_eq_true rfl) (Nat.le_of_ble_eq_true rfl) dX0_init_26 (fun q2 => ?_)
  refine g_dup X dX0_init_29 rfl ?_
  refine g_callIN (ret := none) X (As := []) (rest := [.ref q2, .ref a]) (m_X5_init l D cI cJ cZ q2) 1 rfl kZ_RX5 kC_yX5_init hV_X5_init.2 kI_yX5_init rfl rfl rfl rfl ⟨Nat.le_of_ble_eq_true rfl, Nat.le_of_ble_eq_true rfl⟩ ⟨Nat.le_of_ble_eq_true rfl, Nat.le_of_ble_eq_true rfl⟩ (Nat.le_of_ble_eq_true rfl) dX0_init_30 rfl [11] rfl rfl (fun v w hv => ?_)
  obtain ⟨rfl, gq2, hgq2, rfl⟩ := hv
  subst hgq2
  refine ⟨[(a, .inr (0, [.int ((zS 13 0).toInt32), .int (zC 10 0), .ref (gq1 0), .null, .null, .null, .null, .null, .long 0, .long 0, .long 0]))] ++ wG gq1 cI cJ iC iS zS ++ wW gq2 cI cJ cZ zC zN zS, ⟨[11], [0, 1, 2, 3, 4, 5, 6, 7, 8, 9, 10], [0, 1, 2, 3, 4, 5, 6, 7, 8, 9, 10, 11, 12, 13, 14, 15, 16, 17, 18, 19], ([0, 1, 2, 3, 4, 5, 6, 7, 8, 9, 10].filterMap fun i => ([(a, .inr (0, [.int ((zS 13 0).toInt32), .int (zC 10 0), .ref (gq1 0), .null, .null, .null, .null, .null, .long 0, .long 0, .long 0]))] ++ wG gq1 cI cJ iC iS zS ++ [(gq2 0, .inr (5, [.int 0, .null, .null, .null, .null, .null, .null, .null, .null]))])[i]?), rfl, rfl, rfl, rfl, by decide, rfl, by decide +kernel⟩, ?_⟩
  refine g_putF X (C := RX0) (T := TX0) (N := 11) (ws' := [(a, .inr (0, [.int ((zS 13 0).toInt32), .int (zC 10 0), .ref (gq1 0), .ref (gq2 0), .null, .null, .null, .null, .long 0, .long 0, .long 0]))] ++ wG gq1 cI cJ iC iS zS ++ wW gq2 cI cJ cZ zC zN zS) inlX0 tyX0 tyX0_ok nmX0 hmn 0 rfl rfl 3 (Nat.le_of_ble_eq_true rfl) kF_X0_28 rfl rfl rfl rfl (Nat.le_of_ble_eq_true rfl) dX0_init_33 rfl ?_
  refine g_aload_n X 0 dX0_init_36 rfl rfl ?_
  refine g_new X inlX4 tyX4 tyX4_ok kQ_X0_32 kB_RX4 kZ_RX4 (ci := 4) rfl [.int 0, .null, .null] (by decide +kernel) (Nat.le_of_ble_eq_true rfl) (Nat.le_of_ble_eq_true rfl) dX0_init_37 (fun q3 => ?_)
  refine g_dup X dX0_init_40 rfl ?_
  refine g_callIN (ret := none) X (As := []) (rest := [.ref q3, .ref a]) (m_X4_init l D cI cJ cZ q3) 2 rfl kZ_RX4 kC_yX4_init hV_X4_init.2 kI_yX4_init rfl rfl rfl rfl ⟨Nat.le_of_ble_eq_true rfl, Nat.le_of_ble_eq_true rfl⟩ ⟨Nat.le_of_ble_eq_true rfl, Nat.le_of_ble_eq_true rfl⟩ (Nat.le_of_ble_eq_true rfl) dX0_init_41 rfl [20] rfl rfl (fun v w hv => ?_)
  obtain ⟨rfl, gq3, hgq3, rfl⟩ := hv
  subst hgq3
  refine ⟨[(a, .inr (0, [.int ((zS 13 0).toInt32), .int (zC 10 0), .ref (gq1 0), .ref (gq2 0), .null, .null, .null, .null, .long 0, .long 0, .long 0]))] ++ wG gq1 cI cJ iC iS zS ++ wW gq2 cI cJ cZ zC zN zS ++ wU gq3 cI zC zN, ⟨[20], [0, 1, 2, 3, 4, 5, 6, 7, 8, 9, 10, 11, 12, 13, 14, 15, 16, 17, 18, 19], [0, 1, 2, 3, 4, 5, 6, 7, 8, 9, 10, 11, 12, 13, 14, 15, 16, 17, 18, 19, 20, 21, 22], ([0, 1, 2, 3, 4, 5, 6, 7, 8, 9, 10, 11, 12, 13, 14, 15, 16, 17, 18, 19].filterMap fun i => ([(a, .inr (0, [.int ((zS 13 0).toInt32), .int (zC 10 0), .ref (gq1 0), .ref (gq2 0), .null, .null, .null, .null, .long 0, .long 0, .long 0]))] ++ wG gq1 cI cJ iC iS zS ++ wW gq2 cI cJ cZ zC zN zS ++ [(gq3 0, .inr (4, [.int 0, .null, .null]))])[i]?), rfl, rfl, rfl, rfl, by decide, rfl, by decide +kernel⟩, ?_⟩
  refine g_putF X (C := RX0) (T := TX0) (N := 11) (ws' := [(a, .inr (0, [.int ((zS 13 0).toInt32), .int (zC 10 0), .ref (gq1 0), .ref (gq2 0), .ref (gq3 0), .null, .null, .null, .long 0, .long 0, .long 0]))] ++ wG gq1 cI cJ iC iS zS ++ wW gq2 cI cJ cZ zC zN zS ++ wU gq3 cI zC zN) inlX0 tyX0 tyX0_ok nmX0 hmn 0 rfl rfl 4 (Nat.le_of_ble_eq_true rfl) kF_X0_35 rfl rfl rfl rfl (Nat.le_of_ble_eq_true rfl) dX0_init_44 rfl ?_
  refine g_aload_n X 0 dX0_init_47 rfl rfl ?_
  refine g_new X inlX3 tyX3 tyX3_ok kQ_X0_39 kB_RX3 kZ_RX3 (ci := 3) rfl [.int 0, .null, .null, .null, .null, .null, .null] (by decide +kernel) (Nat.le_of_ble_eq_true rfl) (Nat.le_of_ble_eq_true rfl) dX0_init_48 (fun q4 => ?_)
  refine g_dup X dX0_init_51 rfl ?_
  refine g_callIN (ret := none) X (As := []) (rest := [.ref q4, .ref a]) (m_X3_init l D cI cJ cZ q4) 3 rfl kZ_RX3 kC_yX3_init hV_X3_init.2 kI_yX3_init rfl rfl rfl rfl ⟨Nat.le_of_ble_eq_true rfl, Nat.le_of_ble_eq_true rfl⟩ ⟨Nat.le_of_ble_eq_true rfl, Nat.le_of_ble_eq_true rfl⟩ (Nat.le_of_ble_eq_true rfl) dX0_init_52 rfl [23] rfl rfl (fun v w hv => ?_)
  obtain ⟨rfl, gq4, hgq4, rfl⟩ := hv
  subst hgq4
  refine ⟨[(a, .inr (0, [.int ((zS 13 0).toInt32), .int (zC 10 0), .ref (gq1 0), .ref (gq2 0), .ref (gq3 0), .null, .null, .null, .long 0, .long 0, .long 0]))] ++ wG gq1 cI cJ iC iS zS ++ wW gq2 cI cJ cZ zC zN zS ++ wU gq3 cI zC zN ++ wS gq4 cI cJ zC zN zS, ⟨[23], [0, 1, 2, 3, 4, 5, 6, 7, 8, 9, 10, 11, 12, 13, 14, 15, 16, 17, 18, 19, 20, 21, 22], [0, 1, 2, 3, 4, 5, 6, 7, 8, 9, 10, 11, 12, 13, 14, 15, 16, 17, 18, 19, 20, 21, 22, 23, 24, 25, 26, 27, 28, 29], ([0, 1, 2, 3, 4, 5, 6, 7, 8, 9, 10, 11, 12, 13, 14, 15, 16, 17, 18, 19, 20, 21, 22].filterMap fun i => ([(a, .inr (0, [.int ((zS 13 0).toInt32), .int (zC 10 0), .ref (gq1 0), .ref (gq2 0), .ref (gq3 0), .null, .null, .null, .long 0, .long 0, .long 0]))] ++ wG gq1 cI cJ iC iS zS ++ wW gq2 cI cJ cZ zC zN zS ++ wU gq3 cI zC zN ++ [(gq4 0, .inr (3, [.int 0, .null, .null, .null, .null, .null, .null]))])[i]?), rfl, rfl, rfl, rfl, by decide, rfl, by decide +kernel⟩, ?_⟩
  refine g_putF X (C := RX0) (T := TX0) (N := 11) (ws' := [(a, .inr (0, [.int ((zS 13 0).toInt32), .int (zC 10 0), .ref (gq1 0), .ref (gq2 0), .ref (gq3 0), .ref (gq4 0), .null, .null, .long 0, .long 0, .long 0]))] ++ wG gq1 cI cJ iC iS zS ++ wW gq2 cI cJ cZ zC zN zS ++ wU gq3 cI zC zN ++ wS gq4 cI cJ zC zN zS) inlX0 tyX0 tyX0_ok nmX0 hmn 0 rfl rfl 5 (Nat.le_of_ble_eq_true rfl) kF_X0_42 rfl rfl rfl rfl (Nat.le_of_ble_eq_true rfl) dX0_init_55 rfl ?_
  refine g_aload_n X 0 dX0_init_58 rfl rfl ?_
  refine g_new X inlX2 tyX2 tyX2_ok kQ_X0_46 kB_RX2 kZ_RX2 (ci := 2) rfl [.int 0, .null, .null, .null] (by decide +kernel) (Nat.le_of_ble_eq_true rfl) (Nat.le_of_ble_eq_true rfl) dX0_init_59 (fun q5 => ?_)
  refine g_dup X dX0_init_62 rfl ?_
  refine g_callIN (ret := none) X (As := []) (rest := [.ref q5, .ref a]) (m_X2_init l D cI cJ cZ q5) 4 rfl kZ_RX2 kC_yX2_init hV_X2_init.2 kI_yX2_init rfl rfl rfl rfl ⟨Nat.le_of_ble_eq_true rfl, Nat.le_of_ble_eq_true rfl⟩ ⟨Nat.le_of_ble_eq_true rfl, Nat.le_of_ble_eq_true rfl⟩ (Nat.le_of_ble_eq_true rfl) dX0_init_63 rfl [30] rfl rfl (fun v w hv => ?_)
  obtain ⟨rfl, gq5, hgq5, rfl⟩ := hv
  subst hgq5
  refine ⟨[(a, .inr (0, [.int ((zS 13 0).toInt32), .int (zC 10 0), .ref (gq1 0), .ref (gq2 0), .ref (gq3 0), .ref (gq4 0), .null, .null, .long 0, .long 0, .long 0]))] ++ wG gq1 cI cJ iC iS zS ++ wW gq2 cI cJ cZ zC zN zS ++ wU gq3 cI zC zN ++ wS gq4 cI cJ zC zN zS ++ wQ gq5 cI zS zQ, ⟨[30], [0, 1, 2, 3, 4, 5, 6, 7, 8, 9, 10, 11, 12, 13, 14, 15, 16, 17, 18, 19, 20, 21, 22, 23, 24, 25, 26, 27, 28, 29], [0, 1, 2, 3, 4, 5, 6, 7, 8, 9, 10, 11, 12, 13, 14, 15, 16, 17, 18, 19, 20, 21, 22, 23, 24, 25, 26, 27, 28, 29, 30, 31, 32, 33], ([0, 1, 2, 3, 4, 5, 6, 7, 8, 9, 10, 11, 12, 13, 14, 15, 16, 17, 18, 19, 20, 21, 22, 23, 24, 25, 26, 27, 28, 29].filterMap fun i => ([(a, .inr (0, [.int ((zS 13 0).toInt32), .int (zC 10 0), .ref (gq1 0), .ref (gq2 0), .ref (gq3 0), .ref (gq4 0), .null, .null, .long 0, .long 0, .long 0]))] ++ wG gq1 cI cJ iC iS zS ++ wW gq2 cI cJ cZ zC zN zS ++ wU gq3 cI zC zN ++ wS gq4 cI cJ zC zN zS ++ [(gq5 0, .inr (2, [.int 0, .null, .null, .null]))])[i]?), rfl, rfl, rfl, rfl, by decide, rfl, by decide +kernel⟩, ?_⟩
  refine g_putF X (C := RX0) (T := TX0) (N := 11) (ws' := [(a, .inr (0, [.int ((zS 13 0).toInt32), .int (zC 10 0), .ref (gq1 0), .ref (gq2 0), .ref (gq3 0), .ref (gq4 0), .ref (gq5 0), .null, .long 0, .long 0, .long 0]))] ++ wG gq1 cI cJ iC iS zS ++ wW gq2 cI cJ cZ zC zN zS ++ wU gq3 cI zC zN ++ wS gq4 cI cJ zC zN zS ++ wQ gq5 cI zS zQ) inlX0 tyX0 tyX0_ok nmX0 hmn 0 rfl rfl 6 (Nat.le_of_ble_eq_true rfl) kF_X0_49 rfl rfl rfl rfl (Nat.le_of_ble_eq_true rfl) dX0_init_66 rfl ?_
  refine g_aload_n X 0 dX0_init_69 rfl rfl ?_
  refine g_bipush X (v := nI 8) dX0_init_70 (by decide +kernel) ?_
  refine g_newaJ X 8 rfl (Nat.le_of_ble_eq_true rfl) (Nat.le_of_ble_eq_true rfl) (Nat.le_of_ble_eq_true rfl) dX0_init_72 (fun q6 => ?_)
  refine g_putF X (C := RX0) (T := TX0) (N := 11) (ws' := [(a, .inr (0, [.int ((zS 13 0).toInt32), .int (zC 10 0), .ref (gq1 0), .ref (gq2 0), .ref (gq3 0), .ref (gq4 0), .ref (gq5 0), .ref q6, .long 0, .long 0, .long 0]))] ++ wG gq1 cI cJ iC iS zS ++ wW gq2 cI cJ cZ zC zN zS ++ wU gq3 cI zC zN ++ wS gq4 cI cJ zC zN zS ++ wQ gq5 cI zS zQ ++ [(q6, .inl (cJ, 8, .inr (.inl (fun _ => 0))))]) inlX0 tyX0 tyX0_ok nmX0 hmn 0 rfl rfl 7 (Nat.le_of_ble_eq_true rfl) kF_X0_53 rfl rfl rfl rfl (Nat.le_of_ble_eq_true rfl) dX0_init_74 rfl ?_
  refine g_aload_n X 0 dX0_init_77 rfl rfl ?_
  refine g_lconst X (v := zS 3 0) dX0_init_78 (by decide +kernel) ?_
  refine g_put X (C := RX0) (T := TX0) (N := 11) (ws' := [(a, .inr (0, [.int ((zS 13 0).toInt32), .int (zC 10 0), .ref (gq1 0), .ref (gq2 0), .ref (gq3 0), .ref (gq4 0), .ref (gq5 0), .ref q6, .long (zS 3 0), .long 0, .long 0]))] ++ wG gq1 cI cJ iC iS zS ++ wW gq2 cI cJ cZ zC zN zS ++ wU gq3 cI zC zN ++ wS gq4 cI cJ zC zN zS ++ wQ gq5 cI zS zQ ++ [(q6, .inl (cJ, 8, .inr (.inl (fun _ => 0))))]) inlX0 tyX0 tyX0_ok nmX0 0 rfl rfl 8 (Nat.le_of_ble_eq_true rfl) kF_X0_57 rfl rfl rfl (Nat.le_of_ble_eq_true rfl) dX0_init_79 rfl ?_
  refine g_aload_n X 0 dX0_init_82 rfl rfl ?_
  refine g_lconst X (v := zS 3 1) dX0_init_83 (by decide +kernel) ?_
  refine g_put X (C := RX0) (T := TX0) (N := 11) (ws' := [(a, .inr (0, [.int ((zS 13 0).toInt32), .int (zC 10 0), .ref (gq1 0), .ref (gq2 0), .ref (gq3 0), .ref (gq4 0), .ref (gq5 0), .ref q6, .long (zS 3 0), .long (zS 3 1), .long 0]))] ++ wG gq1 cI cJ iC iS zS ++ wW gq2 cI cJ cZ zC zN zS ++ wU gq3 cI zC zN ++ wS gq4 cI cJ zC zN zS ++ wQ gq5 cI zS zQ ++ [(q6, .inl (cJ, 8, .inr (.inl (fun _ => 0))))]) inlX0 tyX0 tyX0_ok nmX0 0 rfl rfl 9 (Nat.le_of_ble_eq_true rfl) kF_X0_61 rfl rfl rfl (Nat.le_of_ble_eq_true rfl) dX0_init_84 rfl ?_
  refine g_aload_n X 0 dX0_init_87 rfl rfl ?_
  refine g_lconst X (v := zS 3 2) dX0_init_88 (by decide +kernel) ?_
  refine g_put X (C := RX0) (T := TX0) (N := 11) (ws' := [(a, .inr (0, [.int ((zS 13 0).toInt32), .int (zC 10 0), .ref (gq1 0), .ref (gq2 0), .ref (gq3 0), .ref (gq4 0), .ref (gq5 0), .ref q6, .long (zS 3 0), .long (zS 3 1), .long (zS 3 2)]))] ++ wG gq1 cI cJ iC iS zS ++ wW gq2 cI cJ cZ zC zN zS ++ wU gq3 cI zC zN ++ wS gq4 cI cJ zC zN zS ++ wQ gq5 cI zS zQ ++ [(q6, .inl (cJ, 8, .inr (.inl (fun _ => 0))))]) inlX0 tyX0 tyX0_ok nmX0 0 rfl rfl 10 (Nat.le_of_ble_eq_true rfl) kF_X0_64 rfl rfl rfl (Nat.le_of_ble_eq_true rfl) dX0_init_89 rfl ?_
  refine g_vret X hr hlk hQ dX0_init_92 ?_
  exact ⟨rfl, gF a gq1 gq2 gq3 gq4 gq5 q6, rfl, rfl⟩
theorem hV_X6_init : yX6_init.cls = RX6 ∧ yX6_init.cls ≠ "java/lang/invoke/MethodHandle" ∧ yX6_init.cls ≠ "java/lang/invoke/VarHandle" ∧ (parseMethodDescriptor yX6_init.desc).map (fun d => d.parameters.length) = some 0 := by decide +kernel
abbrev rm_X6_init : Room := { frames := 3, cells := 70, slots := 982, locals := 65 }
set_option maxRecDepth 100000 in
set_option maxHeartbeats 4000000 in
theorem m_X6_init (l : Launch) (D : va_G) (cI cJ cZ : ClassId) (a : Nat) : g_Ct l D cI cJ cZ yX6_init cX6_init 1 none rm_X6_init 70 982 [.ref a] ([(a, .inr (6, [.null, .null]))]) (fun v w => v = none ∧ ∃ g : Nat → Nat, g 0 = a ∧ w = wX2 g cI cJ cZ iC zN iS zQ zS iC zN iS zQ zS) := by
  refine g_body RX6 [(0, .ref a)] kH_X6 rfl (Nat.le_of_ble_eq_true rfl) rfl ?_
  intro p e s m args below meth c A X hr hlk hmn Q hQ
  refine g_aload_n X 0 dX6_init_0 rfl rfl ?_
  refine g_obj X kM_X6_1 dX6_init_1 (Nat.le_of_ble_eq_true rfl) (Nat.le_of_ble_eq_true rfl) ?_
  refine g_aload_n X 0 dX6_init_4 rfl rfl ?_
  refine g_new X inlX0 tyX0 tyX0_ok kQ_X6_7 kB_RX0 kZ_RX0 (ci := 0) rfl [.int 0, .int 0, .null, .null, .null, .null, .null, .null, .long 0, .long 0, .long 0] (by decide +kernel) (Nat.le_of_ble_eq_true rfl) (Nat.le_of_ble_eq_true rfl) dX6_init_5 (fun q1 => ?_)
  refine g_dup X dX6_init_8 rfl ?_
  refine g_callIN (ret := none) X (As := []) (rest := [.ref q1, .ref a]) (m_X0_init l D cI cJ cZ q1) 0 rfl kZ_RX0 kC_yX0_init hV_X0_init.2 kI_yX0_init rfl rfl rfl rfl ⟨Nat.le_of_ble_eq_true rfl, Nat.le_of_ble_eq_true rfl⟩ ⟨Nat.le_of_ble_eq_true rfl, Nat.le_of_ble_eq_true rfl⟩ (Nat.le_of_ble_eq_true rfl) dX6_init_9 rfl [1] rfl rfl (fun v w hv => ?_)
  obtain ⟨rfl, gq1, hgq1, rfl⟩ := hv
  subst hgq1
  refine ⟨[(a, .inr (6, [.null, .null]))] ++ wF gq1 cI cJ cZ iC zN iS zQ zS, ⟨[1], [0], [0, 1, 2, 3, 4, 5, 6, 7, 8, 9, 10, 11, 12, 13, 14, 15, 16, 17, 18, 19, 20, 21, 22, 23, 24, 25, 26, 27, 28, 29, 30, 31, 32, 33, 34, 35], ([0].filterMap fun i => ([(a, .inr (6, [.null, .null]))] ++ [(gq1 0, .inr (0, [.int 0, .int 0, .null, .null, .null, .null, .null, .null, .long 0, .long 0, .long 0]))])[i]?), rfl, rfl, rfl, rfl, by decide, rfl, by decide +kernel⟩, ?_⟩
  refine g_putF X (C := RX6) (T := TX6) (N := 2) (ws' := [(a, .inr (6, [.ref (gq1 0), .null]))] ++ wF gq1 cI cJ cZ iC zN iS zQ zS) inlX6 tyX6 tyX6_ok nmX6 hmn 0 rfl rfl 0 (Nat.le_of_ble_eq_true rfl) kF_X6_10 rfl rfl rfl rfl (Nat.le_of_ble_eq_true rfl) dX6_init_12 rfl ?_
  refine g_aload_n X 0 dX6_init_15 rfl rfl ?_
  refine g_new X inlX0 tyX0 tyX0_ok kQ_X6_7 kB_RX0 kZ_RX0 (ci := 0) rfl [.int 0, .int 0, .null, .null, .null, .null, .null, .null, .long 0, .long 0, .long 0] (by decide +kernel) (Nat.le_of_ble_eq_true rfl) (Nat.le_of_ble_eq_true rfl) dX6_init_16 (fun q2 => ?_)
  refine g_dup X dX6_init_19 rfl ?_
  refine g_callIN (ret := none) X (As := []) (rest := [.ref q2, .ref a]) (m_X0_init l D cI cJ cZ q2) 0 rfl kZ_RX0 kC_yX0_init hV_X0_init.2 kI_yX0_init rfl rfl rfl rfl ⟨Nat.le_of_ble_eq_true rfl, Nat.le_of_ble_eq_true rfl⟩ ⟨Nat.le_of_ble_eq_true rfl, Nat.le_of_ble_eq_true rfl⟩ (Nat.le_of_ble_eq_true rfl) dX6_init_20 rfl [36] rfl rfl (fun v w hv => ?_)
  obtain ⟨rfl, gq2, hgq2, rfl⟩ := hv
  subst hgq2
  refine ⟨[(a, .inr (6, [.ref (gq1 0), .null]))] ++ wF gq1 cI cJ cZ iC zN iS zQ zS ++ wF gq2 cI cJ cZ iC zN iS zQ zS, ⟨[36], [0, 1, 2, 3, 4, 5, 6, 7, 8, 9, 10, 11, 12, 13, 14, 15, 16, 17, 18, 19, 20, 21, 22, 23, 24, 25, 26, 27, 28, 29, 30, 31, 32, 33, 34, 35], [0, 1, 2, 3, 4, 5, 6, 7, 8, 9, 10, 11, 12, 13, 14, 15, 16, 17, 18, 19, 20, 21, 22, 23, 24, 25, 26, 27, 28, 29, 30, 31, 32, 33, 34, 35, 36, 37, 38, 39, 40, 41, 42, 43, 44, 45, 46, 47, 48, 49, 50, 51, 52, 53, 54, 55, 56, 57, 58, 59, 60, 61, 62, 63, 64, 65, 66, 67, 68, 69, 70], ([0, 1, 2, 3, 4, 5, 6, 7, 8, 9, 10, 11, 12, 13, 14, 15, 16, 17, 18, 19, 20, 21, 22, 23, 24, 25, 26, 27, 28, 29, 30, 31, 32, 33, 34, 35].filterMap fun i => ([(a, .inr (6, [.ref (gq1 0), .null]))] ++ wF gq1 cI cJ cZ iC zN iS zQ zS ++ [(gq2 0, .inr (0, [.int 0, .int 0, .null, .null, .null, .null, .null, .null, .long 0, .long 0, .long 0]))])[i]?), rfl, rfl, rfl, rfl, by decide, rfl, by decide +kernel⟩, ?_⟩
  refine g_putF X (C := RX6) (T := TX6) (N := 2) (ws' := [(a, .inr (6, [.ref (gq1 0), .ref (gq2 0)]))] ++ wF gq1 cI cJ cZ iC zN iS zQ zS ++ wF gq2 cI cJ cZ iC zN iS zQ zS) inlX6 tyX6 tyX6_ok nmX6 hmn 0 rfl rfl 1 (Nat.le_of_ble_eq_true rfl) kF_X6_16 rfl rfl rfl rfl (Nat.le_of_ble_eq_true rfl) dX6_init_23 rfl ?_
  refine g_vret X hr hlk hQ dX6_init_26 ?_
  exact ⟨rfl, xF a gq1 gq2, rfl, rfl⟩
