/-! new objects -/
section GXN
variable {p : Program} {l : Launch} {e : Env} {R : Room} {s : State} {m : MethodId} {args : Array Value} {below : List Frame} {meth : Method} {c : Code} {D : va_G} {A : Nat → Prop} {nL kc ks : Nat} {cc : ByteArray} {own : String} {cI cJ cZ : ClassId} {Q : State → Prop} {ws ws' : va_W} {lv lv' : List (Nat × Value)} {pc : Nat} {st : List Value} {Φ : Option Value → va_W → Prop}
theorem g_newaI (X : g_Cx p s m args c D A nL cc own cI cJ cZ) {n : Int32} (N' : Nat) (hn : n = nI N') (hN : N' ≤ 1000) (hcells : kc + 1 ≤ R.cells) (hslots : ks + N' ≤ R.slots) (hd : decode cc pc = .ok (.newarray .int, 2)) (kk : ∀ q : Nat, g_G p l e R s m args below meth c D A nL (kc + 1) (ks + N') Q (ws ++ [(q, .inl (cI, N', .inl (fun _ => 0)))]) lv (pc + 2) (.ref q :: st)) : g_G p l e R s m args below meth c D A nL kc ks Q ws lv pc (.int n :: st) := by
  subst hn
  intro H locs ls hP hD hS hl
  refine va_newa (atype := .int) X.1 X.2.1 (X.2.2.2.2.1 _ kA_int) (ty := .int) rfl X.2.2.2.2.2.1.1 hP hD hS X.2.2.2.2.2.2 (N' := N') (a0 := (N', .inl (fun _ => 0))) (fun cA => (vp_cell_i cA N' _).trans rfl) (fun z => by rw [Int32.lt_iff_toInt_lt, nI_toInt (by omega)] at z; have e0 : (0 : Int32).toInt = 0 := rfl; omega) (nI_clamp (by omega)) (Nat.le_trans (Nat.mul_le_mul_right _ hN) (by decide)) hcells hslots hd (fun q cA H1 hK1 hP1 hD1 hS1 => ?_)
  have h1 := (X.2.2.2.2.2.1.1.2 0 (cI, .int) rfl).2
  have h2 := (hK1.2 3 (cA, .int) rfl).2
  have e : cA = cI := Option.some.inj (h2.symm.trans h1)
  subst e
  exact kk q H1 locs ls hP1 hD1 hS1 hl
theorem g_newaJ (X : g_Cx p s m args c D A nL cc own cI cJ cZ) {n : Int32} (N' : Nat) (hn : n = nI N') (hN : N' ≤ 1000) (hcells : kc + 1 ≤ R.cells) (hslots : ks + N' ≤ R.slots) (hd : decode cc pc = .ok (.newarray .long, 2)) (kk : ∀ q : Nat, g_G p l e R s m args below meth c D A nL (kc + 1) (ks + N') Q (ws ++ [(q, .inl (cJ, N', .inr (.inl (fun _ => 0))))]) lv (pc + 2) (.ref q :: st)) : g_G p l e R s m args below meth c D A nL kc ks Q ws lv pc (.int n :: st) := by
  subst hn
  intro H locs ls hP hD hS hl
  refine va_newa (atype := .long) X.1 X.2.1 (X.2.2.2.2.1 _ kA_long) (ty := .long) rfl X.2.2.2.2.2.1.1 hP hD hS X.2.2.2.2.2.2 (N' := N') (a0 := (N', .inr (.inl (fun _ => 0)))) (fun cA => (vp_cell_l cA N' _).trans rfl) (fun z => by rw [Int32.lt_iff_toInt_lt, nI_toInt (by omega)] at z; have e0 : (0 : Int32).toInt = 0 := rfl; omega) (nI_clamp (by omega)) (Nat.le_trans (Nat.mul_le_mul_right _ hN) (by decide)) hcells hslots hd (fun q cA H1 hK1 hP1 hD1 hS1 => ?_)
  have h1 := (X.2.2.2.2.2.1.1.2 1 (cJ, .long) rfl).2
  have h2 := (hK1.2 3 (cA, .long) rfl).2
  have e : cA = cJ := Option.some.inj (h2.symm.trans h1)
  subst e
  exact kk q H1 locs ls hP1 hD1 hS1 hl
theorem g_newaZ (X : g_Cx p s m args c D A nL cc own cI cJ cZ) {n : Int32} (N' : Nat) (hn : n = nI N') (hN : N' ≤ 1000) (hcells : kc + 1 ≤ R.cells) (hslots : ks + N' ≤ R.slots) (hd : decode cc pc = .ok (.newarray .boolean, 2)) (kk : ∀ q : Nat, g_G p l e R s m args below meth c D A nL (kc + 1) (ks + N') Q (ws ++ [(q, .inl (cZ, N', .inl (fun _ => 0)))]) lv (pc + 2) (.ref q :: st)) : g_G p l e R s m args below meth c D A nL kc ks Q ws lv pc (.int n :: st) := by
  subst hn
  intro H locs ls hP hD hS hl
  refine va_newa (atype := .boolean) X.1 X.2.1 (X.2.2.2.2.1 _ kA_boolean) (ty := .boolean) rfl X.2.2.2.2.2.1.1 hP hD hS X.2.2.2.2.2.2 (N' := N') (a0 := (N', .inl (fun _ => 0))) (fun cA => (vp_cell_i cA N' _).trans rfl) (fun z => by rw [Int32.lt_iff_toInt_lt, nI_toInt (by omega)] at z; have e0 : (0 : Int32).toInt = 0 := rfl; omega) (nI_clamp (by omega)) (Nat.le_trans (Nat.mul_le_mul_right _ hN) (by decide)) hcells hslots hd (fun q cA H1 hK1 hP1 hD1 hS1 => ?_)
  have h1 := (X.2.2.2.2.2.1.1.2 2 (cZ, .boolean) rfl).2
  have h2 := (hK1.2 3 (cA, .boolean) rfl).2
  have e : cA = cZ := Option.some.inj (h2.symm.trans h1)
  subst e
  exact kk q H1 locs ls hP1 hD1 hS1 hl
theorem g_new (X : g_Cx p s m args c D A nL cc own cI cJ cZ) {C : String} {T : u_T} {N ci index : Nat} (hin : ∀ w ∈ u_ws C T N, w ∈ wsL_law) (ty : Nat → FieldType) (hty : ∀ k, k < N → parseFieldDescriptor (T k).2.2.1 = some (ty k)) (hcl : Cond.classLink own index C ∈ wsL_law) (hinst : Cond.instantiable C N ∈ wsL_law) (hini : Cond.initialized C ∈ wsL_law) (hc : vwCl[ci]? = some (C, T, N)) (fs : List Value) (hfs : ∀ j, j < N → defaultValue (ty j) = vp_V fs j) (hcells : kc + 1 ≤ R.cells) (hslots : ks + N ≤ R.slots) (hd : decode cc pc = .ok (.new index, 3)) (kk : ∀ q : Nat, g_G p l e R s m args below meth c D A nL (kc + 1) (ks + N) Q (ws ++ [(q, .inr (ci, fs))]) lv (pc + 3) (.ref q :: st)) : g_G p l e R s m args below meth c D A nL kc ks Q ws lv pc st := fun H locs ls hP hD hS hl =>
  va_new X.1 X.2.1 X.2.2.2.2.1 hin ty hty X.2.2.2.1 (X.2.2.2.2.1 _ hcl) (X.2.2.2.2.1 _ hinst) (X.2.2.2.2.1 _ hini) X.2.2.2.2.2.1.1 hP hD hS X.2.2.2.2.2.2 hc hfs hcells hslots hd (fun q H1 hP1 hD1 hS1 => kk q H1 locs ls hP1 hD1 hS1 hl)
theorem g_obj (X : g_Cx p s m args c D A nL cc own cI cJ cZ) {index a : Nat} (hlink : Cond.methodLink own index objectInit ∈ wsL_law) (hd : decode cc pc = .ok (.invokespecial index, 3)) (hfr : 1 ≤ R.frames) (hlo : (st.map fun v => v.category).sum + 12 ≤ R.locals) (kk : g_G p l e R s m args below meth c D A nL kc ks Q ws lv (pc + 3) st) : g_G p l e R s m args below meth c D A nL kc ks Q ws lv pc (.ref a :: st) := fun H locs ls hP hD hS hl =>
  W.objInit X.1 X.2.1 X.2.2.2.1 (X.2.2.2.2.1 _ hlink) (X.2.2.2.2.1 _ kI_objectInit) (X.2.2.2.2.1 _ kC_objectInit) rfl (hl.1.trans X.2.2.1.symm) rfl hd hfr (by show 2 * 0 + _ + 12 ≤ _; omega) (kk H locs ls hP hD hS hl)
end GXN
def zS : St := fun _ _ => 0
def zC : Cf := fun _ _ => 0
def zN : Nat → Nat := fun _ => 0
def zQ : Nat → Int64 := fun _ => 0
def iSs (b : Nat) (S : St) : St := u2 (u2 S 0 b 10000) 1 b 6000000
def iCs (b : Nat) (C : Cf) : Cf := c2 (c2 C 0 b (nI 20)) 1 b (nI 20)
/-- the state of a new field -/
def iS : St := itr iSs zS 12
def iC : Cf := itr iCs zC 12
def gof (l : List Nat) : Nat → Nat := fun i => l.getD i 0
theorem fl_z : fl zS zQ = fun _ => 0 := by
  funext k
  unfold fl
  split <;> rfl
theorem fill_i (S : St) (b : Nat) : fillS S b 10000 (nI 200).toInt64 = iSs b S := by
  unfold fillS iSs
  rw [show lN 10000 = 10000 by decide, show (nI 200).toInt64 * lN (10000 + 20000) = 6000000 by decide]

theorem hV_X2_init : yX2_init.cls = RX2 ∧ yX2_init.cls ≠ "java/lang/invoke/MethodHandle" ∧ yX2_init.cls ≠ "java/lang/invoke/VarHandle" ∧ (parseMethodDescriptor yX2_init.desc).map (fun d => d.parameters.length) = some 0 := by decide +kernel
abbrev rm_X2_init : Room := { frames := 1, cells := 3, slots := 180, locals := 24 }
set_option maxRecDepth 100000 in
set_option maxHeartbeats 4000000 in
theorem m_X2_init (l : Launch) (D : va_G) (cI cJ cZ : ClassId) (a : Nat) : g_Ct l D cI cJ cZ yX2_init cX2_init 1 none rm_X2_init 3 180 [.ref a] ([(a, .inr (2, [.int 0, .null, .null, .null]))]) (fun v w => v = none ∧ ∃ g : Nat → Nat, g 0 = a ∧ w = wQ g cI zS zQ) := by
  refine g_body RX2 [(0, .ref a)] kH_X2 rfl (Nat.le_of_ble_eq_true rfl) rfl ?_
  intro p e s m args below meth c A X hr hlk hmn Q hQ
  refine g_aload_n X 0 dX2_init_0 rfl rfl ?_
  refine g_obj X kM_X2_3 dX2_init_1 (Nat.le_of_ble_eq_true rfl) (Nat.le_of_ble_eq_true rfl) ?_
  refine g_aload_n X 0 dX2_init_4 rfl rfl ?_
  refine g_iconst X (v := (zS 14 0).toInt32) dX2_init_5 (by decide +kernel) ?_
  refine g_put X (C := RX2) (T := TX2) (N := 4) (ws' := [(a, .inr (2, [.int ((zS 14 0).toInt32), .null, .null, .null]))]) inlX2 tyX2 tyX2_ok nmX2 0 rfl rfl 0 (Nat.le_of_ble_eq_true rfl) kF_X2_9 rfl rfl rfl (Nat.le_of_ble_eq_true rfl) dX2_init_6 rfl ?_
  refine g_aload_n X 0 dX2_init_9 rfl rfl ?_
  refine g_bipush X (v := nI 60) dX2_init_10 (by decide +kernel) ?_
  refine g_newaI X 60 rfl (Nat.le_of_ble_eq_true rfl) (Nat.le_of_ble_eq_true rfl) (Nat.le_of_ble_eq_true rfl) dX2_init_12 (fun q1 => ?_)
  refine g_putF X (C := RX2) (T := TX2) (N := 4) (ws' := [(a, .inr (2, [.int ((zS 14 0).toInt32), .ref q1, .null, .null]))] ++ [(q1, .inl (cI, 60, .inl (fun _ => 0)))]) inlX2 tyX2 tyX2_ok nmX2 hmn 0 rfl rfl 1 (Nat.le_of_ble_eq_true rfl) kF_X2_15 rfl rfl rfl rfl (Nat.le_of_ble_eq_true rfl) dX2_init_14 rfl ?_
  refine g_aload_n X 0 dX2_init_17 rfl rfl ?_
  refine g_bipush X (v := nI 60) dX2_init_18 (by decide +kernel) ?_
  refine g_newaI X 60 rfl (Nat.le_of_ble_eq_true rfl) (Nat.le_of_ble_eq_true rfl) (Nat.le_of_ble_eq_true rfl) dX2_init_20 (fun q2 => ?_)
  refine g_putF X (C := RX2) (T := TX2) (N := 4) (ws' := [(a, .inr (2, [.int ((zS 14 0).toInt32), .ref q1, .ref q2, .null]))] ++ [(q1, .inl (cI, 60, .inl (fun _ => 0)))] ++ [(q2, .inl (cI, 60, .inl (fun _ => 0)))]) inlX2 tyX2 tyX2_ok nmX2 hmn 0 rfl rfl 2 (Nat.le_of_ble_eq_true rfl) kF_X2_19 rfl rfl rfl rfl (Nat.le_of_ble_eq_true rfl) dX2_init_22 rfl ?_
  refine g_aload_n X 0 dX2_init_25 rfl rfl ?_
  refine g_bipush X (v := nI 60) dX2_init_26 (by decide +kernel) ?_
  refine g_newaI X 60 rfl (Nat.le_of_ble_eq_true rfl) (Nat.le_of_ble_eq_true rfl) (Nat.le_of_ble_eq_true rfl) dX2_init_28 (fun q3 => ?_)
  refine g_putF X (C := RX2) (T := TX2) (N := 4) (ws' := [(a, .inr (2, [.int ((zS 14 0).toInt32), .ref q1, .ref q2, .ref q3]))] ++ [(q1, .inl (cI, 60, .inl (fun _ => 0)))] ++ [(q2, .inl (cI, 60, .inl (fun _ => 0)))] ++ [(q3, .inl (cI, 60, .inl (fun _ => 0)))]) inlX2 tyX2 tyX2_ok nmX2 hmn 0 rfl rfl 3 (Nat.le_of_ble_eq_true rfl) kF_X2_22 rfl rfl rfl rfl (Nat.le_of_ble_eq_true rfl) dX2_init_30 rfl ?_
  refine g_vret X hr hlk hQ dX2_init_33 ?_
  exact ⟨rfl, gof [a, q1, q2, q3], rfl, rfl⟩
theorem hV_X4_init : yX4_init.cls = RX4 ∧ yX4_init.cls ≠ "java/lang/invoke/MethodHandle" ∧ yX4_init.cls ≠ "java/lang/invoke/VarHandle" ∧ (parseMethodDescriptor yX4_init.desc).map (fun d => d.parameters.length) = some 0 := by decide +kernel
abbrev rm_X4_init : Room := { frames := 1, cells := 2, slots := 12, locals := 24 }
set_option maxRecDepth 100000 in
set_option maxHeartbeats 4000000 in
theorem m_X4_init (l : Launch) (D : va_G) (cI cJ cZ : ClassId) (a : Nat) : g_Ct l D cI cJ cZ yX4_init cX4_init 1 none rm_X4_init 2 12 [.ref a] ([(a, .inr (4, [.int 0, .null, .null]))]) (fun v w => v = none ∧ ∃ g : Nat → Nat, g 0 = a ∧ w = wU g cI zC zN) := by
  refine g_body RX4 [(0, .ref a)] kH_X4 rfl (Nat.le_of_ble_eq_true rfl) rfl ?_
  intro p e s m args below meth c A X hr hlk hmn Q hQ
  refine g_aload_n X 0 dX4_init_0 rfl rfl ?_
  refine g_obj X kM_X4_3 dX4_init_1 (Nat.le_of_ble_eq_true rfl) (Nat.le_of_ble_eq_true rfl) ?_
  refine g_aload_n X 0 dX4_init_4 rfl rfl ?_
  refine g_iconst X (v := nI (zN 1)) dX4_init_5 (by decide +kernel) ?_
  refine g_put X (C := RX4) (T := TX4) (N := 3) (ws' := [(a, .inr (4, [.int (nI (zN 1)), .null, .null]))]) inlX4 tyX4 tyX4_ok nmX4 0 rfl rfl 0 (Nat.le_of_ble_eq_true rfl) kF_X4_9 rfl rfl rfl (Nat.le_of_ble_eq_true rfl) dX4_init_6 rfl ?_
  refine g_aload_n X 0 dX4_init_9 rfl rfl ?_
  refine g_bipush X (v := nI 6) dX4_init_10 (by decide +kernel) ?_
  refine g_newaI X 6 rfl (Nat.le_of_ble_eq_true rfl) (Nat.le_of_ble_eq_true rfl) (Nat.le_of_ble_eq_true rfl) dX4_init_12 (fun q1 => ?_)
  refine g_putF X (C := RX4) (T := TX4) (N := 3) (ws' := [(a, .inr (4, [.int (nI (zN 1)), .ref q1, .null]))] ++ [(q1, .inl (cI, 6, .inl (fun _ => 0)))]) inlX4 tyX4 tyX4_ok nmX4 hmn 0 rfl rfl 1 (Nat.le_of_ble_eq_true rfl) kF_X4_15 rfl rfl rfl rfl (Nat.le_of_ble_eq_true rfl) dX4_init_14 rfl ?_
  refine g_aload_n X 0 dX4_init_17 rfl rfl ?_
  refine g_bipush X (v := nI 6) dX4_init_18 (by decide +kernel) ?_
  refine g_newaI X 6 rfl (Nat.le_of_ble_eq_true rfl) (Nat.le_of_ble_eq_true rfl) (Nat.le_of_ble_eq_true rfl) dX4_init_20 (fun q2 => ?_)
  refine g_putF X (C := RX4) (T := TX4) (N := 3) (ws' := [(a, .inr (4, [.int (nI (zN 1)), .ref q1, .ref q2]))] ++ [(q1, .inl (cI, 6, .inl (fun _ => 0)))] ++ [(q2, .inl (cI, 6, .inl (fun _ => 0)))]) inlX4 tyX4 tyX4_ok nmX4 hmn 0 rfl rfl 2 (Nat.le_of_ble_eq_true rfl) kF_X4_19 rfl rfl rfl rfl (Nat.le_of_ble_eq_true rfl) dX4_init_22 rfl ?_
  refine g_vret X hr hlk hQ dX4_init_25 ?_
  exact ⟨rfl, gof [a, q1, q2], rfl, rfl⟩
theorem hV_X5_init : yX5_init.cls = RX5 ∧ yX5_init.cls ≠ "java/lang/invoke/MethodHandle" ∧ yX5_init.cls ≠ "java/lang/invoke/VarHandle" ∧ (parseMethodDescriptor yX5_init.desc).map (fun d => d.parameters.length) = some 0 := by decide +kernel
abbrev rm_X5_init : Room := { frames := 1, cells := 8, slots := 80, locals := 24 }
set_option maxRecDepth 100000 in
set_option maxHeartbeats 4000000 in
theorem m_X5_init (l : Launch) (D : va_G) (cI cJ cZ : ClassId) (a : Nat) : g_Ct l D cI cJ cZ yX5_init cX5_init 1 none rm_X5_init 8 80 [.ref a] ([(a, .inr (5, [.int 0, .null, .null, .null, .null, .null, .null, .null, .null]))]) (fun v w => v = none ∧ ∃ g : Nat → Nat, g 0 = a ∧ w = wW g cI cJ cZ zC zN zS) := by
  refine g_body RX5 [(0, .ref a)] kH_X5 rfl (Nat.le_of_ble_eq_true rfl) rfl ?_
  intro p e s m args below meth c A X hr hlk hmn Q hQ
  refine g_aload_n X 0 dX5_init_0 rfl rfl ?_
  refine g_obj X kM_X5_3 dX5_init_1 (Nat.le_of_ble_eq_true rfl) (Nat.le_of_ble_eq_true rfl) ?_
  refine g_aload_n X 0 dX5_init_4 rfl rfl ?_
  refine g_iconst X (v := nI (zN 0)) dX5_init_5 (by decide +kernel) ?_
  refine g_put X (C := RX5) (T := TX5) (N := 9) (ws' := [(a, .inr (5, [.int (nI (zN 0)), .null, .null, .null, .null, .null, .null, .null, .null]))]) inlX5 tyX5 tyX5_ok nmX5 0 rfl rfl 0 (Nat.le_of_ble_eq_true rfl) kF_X5_9 rfl rfl rfl (Nat.le_of_ble_eq_true rfl) dX5_init_6 rfl ?_
  refine g_aload_n X 0 dX5_init_9 rfl rfl ?_
  refine g_bipush X (v := nI 10) dX5_init_10 (by decide +kernel) ?_
  refine g_newaI X 10 rfl (Nat.le_of_ble_eq_true rfl) (Nat.le_of_ble_eq_true rfl) (Nat.le_of_ble_eq_true rfl) dX5_init_12 (fun q1 => ?_)
  refine g_putF X (C := RX5) (T := TX5) (N := 9) (ws' := [(a, .inr (5, [.int (nI (zN 0)), .ref q1, .null, .null, .null, .null, .null, .null, .null]))] ++ [(q1, .inl (cI, 10, .inl (fun _ => 0)))]) inlX5 tyX5 tyX5_ok nmX5 hmn 0 rfl rfl 1 (Nat.le_of_ble_eq_true rfl) kF_X5_15 rfl rfl rfl rfl (Nat.le_of_ble_eq_true rfl) dX5_init_14 rfl ?_
  refine g_aload_n X 0 dX5_init_17 rfl rfl ?_
  refine g_bipush X (v := nI 10) dX5_init_18 (by decide +kernel) ?_
  refine g_newaZ X 10 rfl (Nat.le_of_ble_eq_true rfl) (Nat.le_of_ble_eq_true rfl) (Nat.le_of_ble_eq_true rfl) dX5_init_20 (fun q2 => ?_)
  refine g_putF X (C := RX5) (T := TX5) (N := 9) (ws' := [(a, .inr (5, [.int (nI (zN 0)), .ref q1, .ref q2, .null, .null, .null, .null, .null, .null]))] ++ [(q1, .inl (cI, 10, .inl (fun _ => 0)))] ++ [(q2, .inl (cZ, 10, .inl (fun _ => 0)))]) inlX5 tyX5 tyX5_ok nmX5 hmn 0 rfl rfl 2 (Nat.le_of_ble_eq_true rfl) kF_X5_19 rfl rfl rfl rfl (Nat.le_of_ble_eq_true rfl) dX5_init_22 rfl ?_
  refine g_aload_n X 0 dX5_init_25 rfl rfl ?_
  refine g_bipush X (v := nI 10) dX5_init_26 (by decide +kernel) ?_
  refine g_newaI X 10 rfl (Nat.le_of_ble_eq_true rfl) (Nat.le_of_ble_eq_true rfl) (Nat.le_of_ble_eq_true rfl) dX5_init_28 (fun q3 => ?_)
  refine g_putF X (C := RX5) (T := TX5) (N := 9) (ws' := [(a, .inr (5, [.int (nI (zN 0)), .ref q1, .ref q2, .ref q3, .null, .null, .null, .null, .null]))] ++ [(q1, .inl (cI, 10, .inl (fun _ => 0)))] ++ [(q2, .inl (cZ, 10, .inl (fun _ => 0)))] ++ [(q3, .inl (cI, 10, .inl (fun _ => 0)))]) inlX5 tyX5 tyX5_ok nmX5 hmn 0 rfl rfl 3 (Nat.le_of_ble_eq_true rfl) kF_X5_23 rfl rfl rfl rfl (Nat.le_of_ble_eq_true rfl) dX5_init_30 rfl ?_
  refine g_aload_n X 0 dX5_init_33 rfl rfl ?_
  refine g_bipush X (v := nI 10) dX5_init_34 (by decide +kernel) ?_
  refine g_newaI X 10 rfl (Nat.le_of_ble_eq_true rfl) (Nat.le_of_ble_eq_true rfl) (Nat.le_of_ble_eq_true rfl) dX5_init_36 (fun q4 => ?_)
  refine g_putF X (C := RX5) (T := TX5) (N := 9) (ws' := [(a, .inr (5, [.int (nI (zN 0)), .ref q1, .ref q2, .ref q3, .ref q4, .null, .null, .null, .null]))] ++ [(q1, .inl (cI, 10, .inl (fun _ => 0)))] ++ [(q2, .inl (cZ, 10, .inl (fun _ => 0)))] ++ [(q3, .inl (cI, 10, .inl (fun _ => 0)))] ++ [(q4, .inl (cI, 10, .inl (fun _ => 0)))]) inlX5 tyX5 tyX5_ok nmX5 hmn 0 rfl rfl 4 (Nat.le_of_ble_eq_true rfl) kF_X5_26 rfl rfl rfl rfl (Nat.le_of_ble_eq_true rfl) dX5_init_38 rfl ?_
  refine g_aload_n X 0 dX5_init_41 rfl rfl ?_
  refine g_bipush X (v := nI 10) dX5_init_42 (by decide +kernel) ?_
  refine g_newaJ X 10 rfl (Nat.le_of_ble_eq_true rfl) (Nat.le_of_ble_eq_true rfl) (Nat.le_of_ble_eq_true rfl) dX5_init_44 (fun q5 => ?_)
  refine g_putF X (C := RX5) (T := TX5) (N := 9) (ws' := [(a, .inr (5, [.int (nI (zN 0)), .ref q1, .ref q2, .ref q3, .ref q4, .ref q5, .null, .null, .null]))] ++ [(q1, .inl (cI, 10, .inl (fun _ => 0)))] ++ [(q2, .inl (cZ, 10, .inl (fun _ => 0)))] ++ [(q3, .inl (cI, 10, .inl (fun _ => 0)))] ++ [(q4, .inl (cI, 10, .inl (fun _ => 0)))] ++ [(q5, .inl (cJ, 10, .inr (.inl (fun _ => 0))))]) inlX5 tyX5 tyX5_ok nmX5 hmn 0 rfl rfl 5 (Nat.le_of_ble_eq_true rfl) kF_X5_29 rfl rfl rfl rfl (Nat.le_of_ble_eq_true rfl) dX5_init_46 rfl ?_
  refine g_aload_n X 0 dX5_init_49 rfl rfl ?_
  refine g_bipush X (v := nI 10) dX5_init_50 (by decide +kernel) ?_
  refine g_newaZ X 10 rfl (Nat.le_of_ble_eq_true rfl) (Nat.le_of_ble_eq_true rfl) (Nat.le_of_ble_eq_true rfl) dX5_init_52 (fun q6 => ?_)
  refine g_putF X (C := RX5) (T := TX5) (N := 9) (ws' := [(a, .inr (5, [.int (nI (zN 0)), .ref q1, .ref q2, .ref q3, .ref q4, .ref q5, .ref q6, .null, .null]))] ++ [(q1, .inl (cI, 10, .inl (fun _ => 0)))] ++ [(q2, .inl (cZ, 10, .inl (fun _ => 0)))] ++ [(q3, .inl (cI, 10, .inl (fun _ => 0)))] ++ [(q4, .inl (cI, 10, .inl (fun _ => 0)))] ++ [(q5, .inl (cJ, 10, .inr (.inl (fun _ => 0))))] ++ [(q6, .inl (cZ, 10, .inl (fun _ => 0)))]) inlX5 tyX5 tyX5_ok nmX5 hmn 0 rfl rfl 6 (Nat.le_of_ble_eq_true rfl) kF_X5_33 rfl rfl rfl rfl (Nat.le_of_ble_eq_true rfl) dX5_init_54 rfl ?_
  refine g_aload_n X 0 dX5_init_57 rfl rfl ?_
  refine g_bipush X (v := nI 10) dX5_init_58 (by decide +kernel) ?_
  refine g_newaJ X 10 rfl (Nat.le_of_ble_eq_true rfl) (Nat.le_of_ble_eq_true rfl) (Nat.le_of_ble_eq_true rfl) dX5_init_60 (fun q7 => ?_)
  refine g_putF X (C := RX5) (T := TX5) (N := 9) (ws' := [(a, .inr (5, [.int (nI (zN 0)), .ref q1, .ref q2, .ref q3, .ref q4, .ref q5, .ref q6, .ref q7, .null]))] ++ [(q1, .inl (cI, 10, .inl (fun _ => 0)))] ++ [(q2, .inl (cZ, 10, .inl (fun _ => 0)))] ++ [(q3, .inl (cI, 10, .inl (fun _ => 0)))] ++ [(q4, .inl (cI, 10, .inl (fun _ => 0)))] ++ [(q5, .inl (cJ, 10, .inr (.inl (fun _ => 0))))] ++ [(q6, .inl (cZ, 10, .inl (fun _ => 0)))] ++ [(q7, .inl (cJ, 10, .inr (.inl (fun _ => 0))))]) inlX5 tyX5 tyX5_ok nmX5 hmn 0 rfl rfl 7 (Nat.le_of_ble_eq_true rfl) kF_X5_36 rfl rfl rfl rfl (Nat.le_of_ble_eq_true rfl) dX5_init_62 rfl ?_
  refine g_aload_n X 0 dX5_init_65 rfl rfl ?_
  refine g_bipush X (v := nI 10) dX5_init_66 (by decide +kernel) ?_
  refine g_newaI X 10 rfl (Nat.le_of_ble_eq_true rfl) (Nat.le_of_ble_eq_true rfl) (Nat.le_of_ble_eq_true rfl) dX5_init_68 (fun q8 => ?_)
  refine g_putF X (C := RX5) (T := TX5) (N := 9) (ws' := [(a, .inr (5, [.int (nI (zN 0)), .ref q1, .ref q2, .ref q3, .ref q4, .ref q5, .ref q6, .ref q7, .ref q8]))] ++ [(q1, .inl (cI, 10, .inl (fun _ => 0)))] ++ [(q2, .inl (cZ, 10, .inl (fun _ => 0)))] ++ [(q3, .inl (cI, 10, .inl (fun _ => 0)))] ++ [(q4, .inl (cI, 10, .inl (fun _ => 0)))] ++ [(q5, .inl (cJ, 10, .inr (.inl (fun _ => 0))))] ++ [(q6, .inl (cZ, 10, .inl (fun _ => 0)))] ++ [(q7, .inl (cJ, 10, .inr (.inl (fun _ => 0))))] ++ [(q8, .inl (cI, 10, .inl (fun _ => 0)))]) inlX5 tyX5 tyX5_ok nmX5 hmn 0 rfl rfl 8 (Nat.le_of_ble_eq_true rfl) kF_X5_39 rfl rfl rfl rfl (Nat.le_of_ble_eq_true rfl) dX5_init_70 rfl ?_
  refine g_vret X hr hlk hQ dX5_init_73 ?_
  exact ⟨rfl, gof [a, q1, q2, q3, q4, q5, q6, q7, q8], rfl, rfl⟩
theorem hV_X3_init : yX3_init.cls = RX3 ∧ yX3_init.cls ≠ "java/lang/invoke/MethodHandle" ∧ yX3_init.cls ≠ "java/lang/invoke/VarHandle" ∧ (parseMethodDescriptor yX3_init.desc).map (fun d => d.parameters.length) = some 0 := by decide +kernel
abbrev rm_X3_init : Room := { frames := 1, cells := 6, slots := 60, locals := 24 }
set_option maxRecDepth 100000 in
set_option maxHeartbeats 4000000 in
theorem m_X3_init (l : Launch) (D : va_G) (cI cJ cZ : ClassId) (a : Nat) : g_Ct l D cI cJ cZ yX3_init cX3_init 1 none rm_X3_init 6 60 [.ref a] ([(a, .inr (3, [.int 0, .null, .null, .null, .null, .null, .null]))]) (fun v w => v = none ∧ ∃ g : Nat → Nat, g 0 = a ∧ w = wS g cI cJ zC zN zS) := by
  refine g_body RX3 [(0, .ref a)] kH_X3 rfl (Nat.le_of_ble_eq_true rfl) rfl ?_
  intro p e s m args below meth c A X hr hlk hmn Q hQ
  refine g_aload_n X 0 dX3_init_0 rfl rfl ?_
  refine g_obj X kM_X3_3 dX3_init_1 (Nat.le_of_ble_eq_true rfl) (Nat.le_of_ble_eq_true rfl) ?_
  refine g_aload_n X 0 dX3_init_4 rfl rfl ?_
  refine g_iconst X (v := nI (zN 2)) dX3_init_5 (by decide +kernel) ?_
  refine g_put X (C := RX3) (T := TX3) (N := 7) (ws' := [(a, .inr (3, [.int (nI (zN 2)), .null, .null, .null, .null, .null, .null]))]) inlX3 tyX3 tyX3_ok nmX3 0 rfl rfl 0 (Nat.le_of_ble_eq_true rfl) kF_X3_9 rfl rfl rfl (Nat.le_of_ble_eq_true rfl) dX3_init_6 rfl ?_
  refine g_aload_n X 0 dX3_init_9 rfl rfl ?_
  refine g_iconst X (v := nI 4) dX3_init_10 (by decide +kernel) ?_
  refine g_newaI X 4 rfl (Nat.le_of_ble_eq_true rfl) (Nat.le_of_ble_eq_true rfl) (Nat.le_of_ble_eq_true rfl) dX3_init_11 (fun q1 => ?_)
  refine g_putF X (C := RX3) (T := TX3) (N := 7) (ws' := [(a, .inr (3, [.int (nI (zN 2)), .ref q1, .null, .null, .null, .null, .null]))] ++ [(q1, .inl (cI, 4, .inl (fun _ => 0)))]) inlX3 tyX3 tyX3_ok nmX3 hmn 0 rfl rfl 1 (Nat.le_of_ble_eq_true rfl) kF_X3_15 rfl rfl rfl rfl (Nat.le_of_ble_eq_true rfl) dX3_init_13 rfl ?_
  refine g_aload_n X 0 dX3_init_16 rfl rfl ?_
  refine g_iconst X (v := nI 4) dX3_init_17 (by decide +kernel) ?_
  refine g_newaI X 4 rfl (Nat.le_of_ble_eq_true rfl) (Nat.le_of_ble_eq_true rfl) (Nat.le_of_ble_eq_true rfl) dX3_init_18 (fun q2 => ?_)
  refine g_putF X (C := RX3) (T := TX3) (N := 7) (ws' := [(a, .inr (3, [.int (nI (zN 2)), .ref q1, .ref q2, .null, .null, .null, .null]))] ++ [(q1, .inl (cI, 4, .inl (fun _ => 0)))] ++ [(q2, .inl (cI, 4, .inl (fun _ => 0)))]) inlX3 tyX3 tyX3_ok nmX3 hmn 0 rfl rfl 2 (Nat.le_of_ble_eq_true rfl) kF_X3_19 rfl rfl rfl rfl (Nat.le_of_ble_eq_true rfl) dX3_init_20 rfl ?_
  refine g_aload_n X 0 dX3_init_23 rfl rfl ?_
  refine g_iconst X (v := nI 4) dX3_init_24 (by decide +kernel) ?_
  refine g_newaI X 4 rfl (Nat.le_of_ble_eq_true rfl) (Nat.le_of_ble_eq_true rfl) (Nat.le_of_ble_eq_true rfl) dX3_init_25 (fun q3 => ?_)
  refine g_putF X (C := RX3) (T := TX3) (N := 7) (ws' := [(a, .inr (3, [.int (nI (zN 2)), .ref q1, .ref q2, .ref q3, .null, .null, .null]))] ++ [(q1, .inl (cI, 4, .inl (fun _ => 0)))] ++ [(q2, .inl (cI, 4, .inl (fun _ => 0)))] ++ [(q3, .inl (cI, 4, .inl (fun _ => 0)))]) inlX3 tyX3 tyX3_ok nmX3 hmn 0 rfl rfl 3 (Nat.le_of_ble_eq_true rfl) kF_X3_22 rfl rfl rfl rfl (Nat.le_of_ble_eq_true rfl) dX3_init_27 rfl ?_
  refine g_aload_n X 0 dX3_init_30 rfl rfl ?_
  refine g_iconst X (v := nI 4) dX3_init_31 (by decide +kernel) ?_
  refine g_newaJ X 4 rfl (Nat.le_of_ble_eq_true rfl) (Nat.le_of_ble_eq_true rfl) (Nat.le_of_ble_eq_true rfl) dX3_init_32 (fun q4 => ?_)
  refine g_putF X (C := RX3) (T := TX3) (N := 7) (ws' := [(a, .inr (3, [.int (nI (zN 2)), .ref q1, .ref q2, .ref q3, .ref q4, .null, .null]))] ++ [(q1, .inl (cI, 4, .inl (fun _ => 0)))] ++ [(q2, .inl (cI, 4, .inl (fun _ => 0)))] ++ [(q3, .inl (cI, 4, .inl (fun _ => 0)))] ++ [(q4, .inl (cJ, 4, .inr (.inl (fun _ => 0))))]) inlX3 tyX3 tyX3_ok nmX3 hmn 0 rfl rfl 4 (Nat.le_of_ble_eq_true rfl) kF_X3_25 rfl rfl rfl rfl (Nat.le_of_ble_eq_true rfl) dX3_init_34 rfl ?_
  refine g_aload_n X 0 dX3_init_37 rfl rfl ?_
  refine g_iconst X (v := nI 4) dX3_init_38 (by decide +kernel) ?_
  refine g_newaI X 4 rfl (Nat.le_of_ble_eq_true rfl) (Nat.le_of_ble_eq_true rfl) (Nat.le_of_ble_eq_true rfl) dX3_init_39 (fun q5 => ?_)
  refine g_putF X (C := RX3) (T := TX3) (N := 7) (ws' := [(a, .inr (3, [.int (nI (zN 2)), .ref q1, .ref q2, .ref q3, .ref q4, .ref q5, .null]))] ++ [(q1, .inl (cI, 4, .inl (fun _ => 0)))] ++ [(q2, .inl (cI, 4, .inl (fun _ => 0)))] ++ [(q3, .inl (cI, 4, .inl (fun _ => 0)))] ++ [(q4, .inl (cJ, 4, .inr (.inl (fun _ => 0))))] ++ [(q5, .inl (cI, 4, .inl (fun _ => 0)))]) inlX3 tyX3 tyX3_ok nmX3 hmn 0 rfl rfl 5 (Nat.le_of_ble_eq_true rfl) kF_X3_29 rfl rfl rfl rfl (Nat.le_of_ble_eq_true rfl) dX3_init_41 rfl ?_
  refine g_aload_n X 0 dX3_init_44 rfl rfl ?_
  refine g_bipush X (v := nI 40) dX3_init_45 (by decide +kernel) ?_
  refine g_newaJ X 40 rfl (Nat.le_of_ble_eq_true rfl) (Nat.le_of_ble_eq_true rfl) (Nat.le_of_ble_eq_true rfl) dX3_init_47 (fun q6 => ?_)
  refine g_putF X (C := RX3) (T := TX3) (N := 7) (ws' := [(a, .inr (3, [.int (nI (zN 2)), .ref q1, .ref q2, .ref q3, .ref q4, .ref q5, .ref q6]))] ++ [(q1, .inl (cI, 4, .inl (fun _ => 0)))] ++ [(q2, .inl (cI, 4, .inl (fun _ => 0)))] ++ [(q3, .inl (cI, 4, .inl (fun _ => 0)))] ++ [(q4, .inl (cJ, 4, .inr (.inl (fun _ => 0))))] ++ [(q5, .inl (cI, 4, .inl (fun _ => 0)))] ++ [(q6, .inl (cJ, 40, .inr (.inl (fun _ => 0))))]) inlX3 tyX3 tyX3_ok nmX3 hmn 0 rfl rfl 6 (Nat.le_of_ble_eq_true rfl) kF_X3_32 rfl rfl rfl rfl (Nat.le_of_ble_eq_true rfl) dX3_init_49 rfl ?_
  refine g_vret X hr hlk hQ dX3_init_52 ?_
  exact ⟨rfl, gof [a, q1, q2, q3, q4, q5, q6], rfl, rfl⟩
theorem hV_X1_init : yX1_init.cls = RX1 ∧ yX1_init.cls ≠ "java/lang/invoke/MethodHandle" ∧ yX1_init.cls ≠ "java/lang/invoke/VarHandle" ∧ (parseMethodDescriptor yX1_init.desc).map (fun d => d.parameters.length) = some 0 := by decide +kernel
abbrev rm_X1_init : Room := { frames := 1, cells := 9, slots := 108, locals := 24 }
set_option maxRecDepth 100000 in
set_option maxHeartbeats 4000000 in
theorem m_X1_init (l : Launch) (D : va_G) (cI cJ cZ : ClassId) (a : Nat) : g_Ct l D cI cJ cZ yX1_init cX1_init 2 none rm_X1_init 9 108 [.ref a] ([(a, .inr (1, [.null, .null, .null, .null, .null, .null, .null, .null, .null]))]) (fun v w => v = none ∧ ∃ g : Nat → Nat, g 0 = a ∧ w = wG g cI cJ iC iS zS) := by
  refine g_body RX1 [(0, .ref a)] kH_X1 rfl (Nat.le_of_ble_eq_true rfl) rfl ?_
  intro p e s m args below meth c A X hr hlk hmn Q hQ
  refine g_aload_n X 0 dX1_init_0 rfl rfl ?_
  refine g_obj X kM_X1_3 dX1_init_1 (Nat.le_of_ble_eq_true rfl) (Nat.le_of_ble_eq_true rfl) ?_
  refine g_aload_n X 0 dX1_init_4 rfl rfl ?_
  refine g_bipush X (v := nI 12) dX1_init_5 (by decide +kernel) ?_
  refine g_newaJ X 12 rfl (Nat.le_of_ble_eq_true rfl) (Nat.le_of_ble_eq_true rfl) (Nat.le_of_ble_eq_true rfl) dX1_init_7 (fun q1 => ?_)
  refine g_putF X (C := RX1) (T := TX1) (N := 9) (ws' := [(a, .inr (1, [.ref q1, .null, .null, .null, .null, .null, .null, .null, .null]))] ++ [(q1, .inl (cJ, 12, .inr (.inl (fun _ => 0))))]) inlX1 tyX1 tyX1_ok nmX1 hmn 0 rfl rfl 0 (Nat.le_of_ble_eq_true rfl) kF_X1_9 rfl rfl rfl rfl (Nat.le_of_ble_eq_true rfl) dX1_init_9 rfl ?_
  refine g_aload_n X 0 dX1_init_12 rfl rfl ?_
  refine g_bipush X (v := nI 12) dX1_init_13 (by decide +kernel) ?_
  refine g_newaJ X 12 rfl (Nat.le_of_ble_eq_true rfl) (Nat.le_of_ble_eq_true rfl) (Nat.le_of_ble_eq_true rfl) dX1_init_15 (fun q2 => ?_)
  refine g_putF X (C := RX1) (T := TX1) (N := 9) (ws' := [(a, .inr (1, [.ref q1, .ref q2, .null, .null, .null, .null, .null, .null, .null]))] ++ [(q1, .inl (cJ, 12, .inr (.inl (fun _ => 0))))] ++ [(q2, .inl (cJ, 12, .inr (.inl (fun _ => 0))))]) inlX1 tyX1 tyX1_ok nmX1 hmn 0 rfl rfl 1 (Nat.le_of_ble_eq_true rfl) kF_X1_15 rfl rfl rfl rfl (Nat.le_of_ble_eq_true rfl) dX1_init_17 rfl ?_
  refine g_aload_n X 0 dX1_init_20 rfl rfl ?_
  refine g_bipush X (v := nI 12) dX1_init_21 (by decide +kernel) ?_
  refine g_newaJ X 12 rfl (Nat.le_of_ble_eq_true rfl) (Nat.le_of_ble_eq_true rfl) (Nat.le_of_ble_eq_true rfl) dX1_init_23 (fun q3 => ?_)
  refine g_putF X (C := RX1) (T := TX1) (N := 9) (ws' := [(a, .inr (1, [.ref q1, .ref q2, .ref q3, .null, .null, .null, .null, .null, .null]))] ++ [(q1, .inl (cJ, 12, .inr (.inl (fun _ => 0))))] ++ [(q2, .inl (cJ, 12, .inr (.inl (fun _ => 0))))] ++ [(q3, .inl (cJ, 12, .inr (.inl (fun _ => 0))))]) inlX1 tyX1 tyX1_ok nmX1 hmn 0 rfl rfl 2 (Nat.le_of_ble_eq_true rfl) kF_X1_18 rfl rfl rfl rfl (Nat.le_of_ble_eq_true rfl) dX1_init_25 rfl ?_
  refine g_aload_n X 0 dX1_init_28 rfl rfl ?_
  refine g_bipush X (v := nI 12) dX1_init_29 (by decide +kernel) ?_
  refine g_newaJ X 12 rfl (Nat.le_of_ble_eq_true rfl) (Nat.le_of_ble_eq_true rfl) (Nat.le_of_ble_eq_true rfl) dX1_init_31 (fun q4 => ?_)
  refine g_putF X (C := RX1) (T := TX1) (N := 9) (ws' := [(a, .inr (1, [.ref q1, .ref q2, .ref q3, .ref q4, .null, .null, .null, .null, .null]))] ++ [(q1, .inl (cJ, 12, .inr (.inl (fun _ => 0))))] ++ [(q2, .inl (cJ, 12, .inr (.inl (fun _ => 0))))] ++ [(q3, .inl (cJ, 12, .inr (.inl (fun _ => 0))))] ++ [(q4, .inl (cJ, 12, .inr (.inl (fun _ => 0))))]) inlX1 tyX1 tyX1_ok nmX1 hmn 0 rfl rfl 3 (Nat.le_of_ble_eq_true rfl) kF_X1_21 rfl rfl rfl rfl (Nat.le_of_ble_eq_true rfl) dX1_init_33 rfl ?_
  refine g_aload_n X 0 dX1_init_36 rfl rfl ?_
  refine g_bipush X (v := nI 12) dX1_init_37 (by decide +kernel) ?_
  refine g_newaI X 12 rfl (Nat.le_of_ble_eq_true rfl) (Nat.le_of_ble_eq_true rfl) (Nat.le_of_ble_eq_true rfl) dX1_init_39 (fun q5 => ?_)
  refine g_putF X (C := RX1) (T := TX1) (N := 9) (ws' := [(a, .inr (1, [.ref q1, .ref q2, .ref q3, .ref q4, .ref q5, .null, .null, .null, .null]))] ++ [(q1, .inl (cJ, 12, .inr (.inl (fun _ => 0))))] ++ [(q2, .inl (cJ, 12, .inr (.inl (fun _ => 0))))] ++ [(q3, .inl (cJ, 12, .inr (.inl (fun _ => 0))))] ++ [(q4, .inl (cJ, 12, .inr (.inl (fun _ => 0))))] ++ [(q5, .inl (cI, 12, .inl (fun _ => 0)))]) inlX1 tyX1 tyX1_ok nmX1 hmn 0 rfl rfl 4 (Nat.le_of_ble_eq_true rfl) kF_X1_24 rfl rfl rfl rfl (Nat.le_of_ble_eq_true rfl) dX1_init_41 rfl ?_
  refine g_aload_n X 0 dX1_init_44 rfl rfl ?_
  refine g_bipush X (v := nI 12) dX1_init_45 (by decide +kernel) ?_
  refine g_newaI X 12 rfl (Nat.le_of_ble_eq_true rfl) (Nat.le_of_ble_eq_true rfl) (Nat.le_of_ble_eq_true rfl) dX1_init_47 (fun q6 => ?_)
  refine g_putF X (C := RX1) (T := TX1) (N := 9) (ws' := [(a, .inr (1, [.ref q1, .ref q2, .ref q3, .ref q4, .ref q5, .ref q6, .null, .null, .null]))] ++ [(q1, .inl (cJ, 12, .inr (.inl (fun _ => 0))))] ++ [(q2, .inl (cJ, 12, .inr (.inl (fun _ => 0))))] ++ [(q3, .inl (cJ, 12, .inr (.inl (fun _ => 0))))] ++ [(q4, .inl (cJ, 12, .inr (.inl (fun _ => 0))))] ++ [(q5, .inl (cI, 12, .inl (fun _ => 0)))] ++ [(q6, .inl (cI, 12, .inl (fun _ => 0)))]) inlX1 tyX1 tyX1_ok nmX1 hmn 0 rfl rfl 5 (Nat.le_of_ble_eq_true rfl) kF_X1_28 rfl rfl rfl rfl (Nat.le_of_ble_eq_true rfl) dX1_init_49 rfl ?_
  refine g_aload_n X 0 dX1_init_52 rfl rfl ?_
  refine g_bipush X (v := nI 12) dX1_init_53 (by decide +kernel) ?_
  refine g_newaJ X 12 rfl (Nat.le_of_ble_eq_true rfl) (Nat.le_of_ble_eq_true rfl) (Nat.le_of_ble_eq_true rfl) dX1_init_55 (fun q7 => ?_)
  refine g_putF X (C := RX1) (T := TX1) (N := 9) (ws' := [(a, .inr (1, [.ref q1, .ref q2, .ref q3, .ref q4, .ref q5, .ref q6, .ref q7, .null, .null]))] ++ [(q1, .inl (cJ, 12, .inr (.inl (fun _ => 0))))] ++ [(q2, .inl (cJ, 12, .inr (.inl (fun _ => 0))))] ++ [(q3, .inl (cJ, 12, .inr (.inl (fun _ => 0))))] ++ [(q4, .inl (cJ, 12, .inr (.inl (fun _ => 0))))] ++ [(q5, .inl (cI, 12, .inl (fun _ => 0)))] ++ [(q6, .inl (cI, 12, .inl (fun _ => 0)))] ++ [(q7, .inl (cJ, 12, .inr (.inl (fun _ => 0))))]) inlX1 tyX1 tyX1_ok nmX1 hmn 0 rfl rfl 6 (Nat.le_of_ble_eq_true rfl) kF_X1_31 rfl rfl rfl rfl (Nat.le_of_ble_eq_true rfl) dX1_init_57 rfl ?_
  refine g_aload_n X 0 dX1_init_60 rfl rfl ?_
  refine g_bipush X (v := nI 12) dX1_init_61 (by decide +kernel) ?_
  refine g_newaJ X 12 rfl (Nat.le_of_ble_eq_true rfl) (Nat.le_of_ble_eq_true rfl) (Nat.le_of_ble_eq_true rfl) dX1_init_63 (fun q8 => ?_)
  refine g_putF X (C := RX1) (T := TX1) (N := 9) (ws' := [(a, .inr (1, [.ref q1, .ref q2, .ref q3, .ref q4, .ref q5, .ref q6, .ref q7, .ref q8, .null]))] ++ [(q1, .inl (cJ, 12, .inr (.inl (fun _ => 0))))] ++ [(q2, .inl (cJ, 12, .inr (.inl (fun _ => 0))))] ++ [(q3, .inl (cJ, 12, .inr (.inl (fun _ => 0))))] ++ [(q4, .inl (cJ, 12, .inr (.inl (fun _ => 0))))] ++ [(q5, .inl (cI, 12, .inl (fun _ => 0)))] ++ [(q6, .inl (cI, 12, .inl (fun _ => 0)))] ++ [(q7, .inl (cJ, 12, .inr (.inl (fun _ => 0))))] ++ [(q8, .inl (cJ, 12, .inr (.inl (fun _ => 0))))]) inlX1 tyX1 tyX1_ok nmX1 hmn 0 rfl rfl 7 (Nat.le_of_ble_eq_true rfl) kF_X1_34 rfl rfl rfl rfl (Nat.le_of_ble_eq_true rfl) dX1_init_65 rfl ?_
  refine g_aload_n X 0 dX1_init_68 rfl rfl ?_
  refine g_bipush X (v := nI 12) dX1_init_69 (by decide +kernel) ?_
  refine g_newaJ X 12 rfl (Nat.le_of_ble_eq_true rfl) (Nat.le_of_ble_eq_true rfl) (Nat.le_of_ble_eq_true rfl) dX1_init_71 (fun q9 => ?_)
  refine g_putF X (C := RX1) (T := TX1) (N := 9) (ws' := [(a, .inr (1, [.ref q1, .ref q2, .ref q3, .ref q4, .ref q5, .ref q6, .ref q7, .ref q8, .ref q9]))] ++ [(q1, .inl (cJ, 12, .inr (.inl (fun _ => 0))))] ++ [(q2, .inl (cJ, 12, .inr (.inl (fun _ => 0))))] ++ [(q3, .inl (cJ, 12, .inr (.inl (fun _ => 0))))] ++ [(q4, .inl (cJ, 12, .inr (.inl (fun _ => 0))))] ++ [(q5, .inl (cI, 12, .inl (fun _ => 0)))] ++ [(q6, .inl (cI, 12, .inl (fun _ => 0)))] ++ [(q7, .inl (cJ, 12, .inr (.inl (fun _ => 0))))] ++ [(q8, .inl (cJ, 12, .inr (.inl (fun _ => 0))))] ++ [(q9, .inl (cJ, 12, .inr (.inl (fun _ => 0))))]) inlX1 tyX1 tyX1_ok nmX1 hmn 0 rfl rfl 8 (Nat.le_of_ble_eq_true rfl) kF_X1_37 rfl rfl rfl rfl (Nat.le_of_ble_eq_true rfl) dX1_init_73 rfl ?_
  obtain ⟨g, hg⟩ : ∃ g : Nat → Nat, g = gof [a, q1, q2, q3, q4, q5, q6, q7, q8, q9] := ⟨_, rfl⟩
  have hga : g 0 = a := by rw [hg]; rfl
  refine g_ws (ws' := wG g cI cJ zC zS zS) (by rw [hg]; rfl) ?_
  refine g_lvq (lv' := [(0, .ref (g 0))]) (by rw [hga]) ?_
  refine g_iconst X (v := nI 0) dX1_init_76 (by decide +kernel) ?_
  refine g_istore_n X [(1, .int (nI 0)), (0, .ref (g 0))] dX1_init_77 rfl (Nat.le_of_ble_eq_true rfl) rfl ?_
  have L1 : ∀ (n3 i2 : Nat) (C4 : Cf) (S5 : St), i2 + n3 = 12 → C4 = itr iCs zC i2 → S5 = itr iSs zS i2 → g_G p l e rm_X1_init s m args below meth c D A 2 9 108 Q (wG g cI cJ C4 S5 zS) [(0, .ref (g 0)), (1, .int (nI i2))] 78 [] := by
    intro n3
    induction n3 with
    | zero =>
      intro i2 C4 S5 hi6 eC4 eS5
      obtain rfl : i2 = 12 := by omega
      refine g_iload_n X 1 dX1_init_78 rfl rfl ?_
      refine g_bipush X (v := nI 12) dX1_init_79 (by decide +kernel) ?_
      refine g_icN_ge X (a := 12) (b := 12) (tgt := 117) (by omega) (by omega) dX1_init_81 (by decide) (fun h7 => ?_) (fun h7 => absurd h7 (by omega))
      refine g_vret X hr hlk hQ dX1_init_117 ?_
      subst eC4
      subst eS5
      exact ⟨rfl, g, hga, rfl⟩
    | succ n3 ihL1 =>
      intro i2 C4 S5 hi6 eC4 eS5
      have hlti2 : i2 < 12 := by omega
      refine g_iload_n X 1 dX1_init_78 rfl rfl ?_
      refine g_bipush X (v := nI 12) dX1_init_79 (by decide +kernel) ?_
      refine g_icN_ge X (a := i2) (b := 12) (tgt := 117) (by omega) (by omega) dX1_init_81 (by decide) (fun h8 => absurd h8 (by omega)) (fun h8 => ?_)
      refine g_aload_n X 0 dX1_init_84 rfl rfl ?_
      refine g_iload_n X 1 dX1_init_85 rfl rfl ?_
      refine g_sipush X (v := nI 10000) dX1_init_86 (by decide +kernel) ?_
      refine g_sipush X (v := nI 200) dX1_init_89 (by decide +kernel) ?_
      obtain ⟨S9, eS9⟩ : ∃ z : St, z = fillS S5 i2 10000 (nI 200).toInt64 := ⟨_, rfl⟩
      refine g_callV X (As := [.int (nI i2), .int (nI 10000), .int (nI 200)]) (rest := []) (m_X1_fill l D cI cJ cZ g C4 S5 zS i2 10000 (nI 200) (by omega) (by omega)) kM_X1_40 kI_yX1_fill kS_yX1_fill kZ_RX1 kC_yX1_fill hV_X1_fill rfl rfl rfl 0 rfl (ci := 1) rfl ⟨Nat.le_of_ble_eq_true rfl, Nat.le_of_ble_eq_true rfl⟩ ⟨Nat.le_of_ble_eq_true rfl, Nat.le_of_ble_eq_true rfl⟩ (Nat.le_of_ble_eq_true rfl) dX1_init_92 rfl [0, 1, 2, 3, 4, 5, 6, 7, 8, 9] rfl rfl (g_kk1 (w2 := wG g cI cJ C4 S9 zS) (by rw [eS9]; exact ⟨[0, 1, 2, 3, 4, 5, 6, 7, 8, 9], [], [0, 1, 2, 3, 4, 5, 6, 7, 8, 9], [], rfl, rfl, rfl, rfl, by decide, rfl, rfl⟩) ?_)
      refine g_aload_n X 0 dX1_init_95 rfl rfl ?_
      refine g_get X (C := RX1) (T := TX1) (N := 9) (v := .ref (g 5)) inlX1 0 rfl rfl 4 (Nat.le_of_ble_eq_true rfl) kF_X1_24 rfl dX1_init_96 ?_
      refine g_iload_n X 1 dX1_init_99 rfl rfl ?_
      refine g_bipush X (v := nI 20) dX1_init_100 (by decide +kernel) ?_
      obtain ⟨C10, eC10⟩ : ∃ z : Cf, z = c2 C4 0 i2 (nI 20) := ⟨_, rfl⟩
      refine g_iast X (ws' := wG g cI cJ C10 S9 zS) 5 rfl (i2) rfl (by omega) (Nat.le_of_ble_eq_true rfl) dX1_init_102 (by rw [eC10]; first | done | (rfl)) ?_
      refine g_aload_n X 0 dX1_init_103 rfl rfl ?_
      refine g_get X (C := RX1) (T := TX1) (N := 9) (v := .ref (g 6)) inlX1 0 rfl rfl 5 (Nat.le_of_ble_eq_true rfl) kF_X1_28 rfl dX1_init_104 ?_
      refine g_iload_n X 1 dX1_init_107 rfl rfl ?_
      refine g_bipush X (v := nI 20) dX1_init_108 (by decide +kernel) ?_
      obtain ⟨C11, eC11⟩ : ∃ z : Cf, z = c2 C10 1 i2 (nI 20) := ⟨_, rfl⟩
      refine g_iast X (ws' := wG g cI cJ C11 S9 zS) 6 rfl (i2) rfl (by omega) (Nat.le_of_ble_eq_true rfl) dX1_init_110 (by rw [eC11]; first | done | (rfl)) ?_
      refine g_iinc X [(1, .int (nI (i2 + 1))), (0, .ref (g 0))] (q := 1) (v := nI (i2 + 1)) dX1_init_111 rfl ((congrArg (fun z => nI (i2) + z) (show Int32.ofInt 1 = nI 1 by decide +kernel)).trans ((nI_add _ _).trans (congrArg nI (by omega)))) (Nat.le_of_ble_eq_true rfl) rfl ?_
      refine g_goto X (tgt := 78) dX1_init_114 (by decide) ?_
      refine g_lv _ [1, 0] rfl ?_
      exact ihL1 (i2 + 1) _ _ (by omega) (by (try rw [eC11]); (try rw [eC10]); (try rw [eS9]); (try rw [eS5]); (try rw [eC4]); first | done | (rfl)) (by (try rw [eC11]); (try rw [eC10]); (try rw [eS9]); (try rw [eS5]); (try rw [eC4]); first | done | (exact fill_i _ _))
  refine g_lv _ [1, 0] rfl ?_
  exact L1 (12) 0 _ _ (by omega) (by first | rfl | (first | done | rfl)) (by first | rfl | (first | done | rfl))
