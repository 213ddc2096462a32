/-! the law's small methods -/
def lwN (v : Int32) (n : Nat) : Nat := (v &&& nI 2147483647).toInt.toNat % n
theorem and31b (v : Int32) : v &&& nI 2147483647 = nI (v &&& nI 2147483647).toInt.toNat ∧ (v &&& nI 2147483647).toInt.toNat < 2147483648 := by
  have h : (v &&& nI 2147483647).toBitVec.toNat < 2147483648 := by
    have e : (v &&& nI 2147483647).toBitVec = v.toBitVec &&& (2147483647#32) := by rw [Int32.toBitVec_and]; rfl
    rw [e, BitVec.toNat_and]
    have : v.toBitVec.toNat &&& (2147483647#32).toNat ≤ (2147483647#32).toNat := Nat.and_le_right
    have h2 : (2147483647#32).toNat = 2147483647 := rfl
    omega
  have e2 : (v &&& nI 2147483647).toInt = ((v &&& nI 2147483647).toBitVec.toNat : Int) := by
    show (v &&& nI 2147483647).toBitVec.toInt = _
    rw [BitVec.toInt_eq_toNat_of_lt (by omega)]
  rw [e2, Int.toNat_natCast]
  refine ⟨?_, h⟩
  apply Int32.toInt_inj.mp
  rw [nI_toInt h, e2]
theorem lwN_lt (v : Int32) {n : Nat} (h : 0 < n) : lwN v n < n := Nat.mod_lt _ h
/-- what lies beside a block, on a side -/
def bsd (b i : Nat) : Int32 := if i = 0 then (if b % 4 < 3 then nI (b + 1) else -1) else if i = 1 then (if 0 < b % 4 then nI (b - 1) else -1) else if i = 2 then (if b < 8 then nI (b + 4) else -1) else (if 3 < b then nI (b - 4) else -1)

theorem hV_L_low : yL_low.cls = RL ∧ yL_low.cls ≠ "java/lang/invoke/MethodHandle" ∧ yL_low.cls ≠ "java/lang/invoke/VarHandle" ∧ (parseMethodDescriptor yL_low.desc).map (fun d => d.parameters.length) = some 2 := by decide +kernel
abbrev rm_L_low : Room := { frames := 0, cells := 0, slots := 0, locals := 0 }
set_option maxRecDepth 100000 in
set_option maxHeartbeats 4000000 in
theorem m_L_low (l : Launch) (D : va_G) (cI cJ cZ : ClassId) (v : Int32) (n : Nat) (hn : 0 < n) (hn2 : n ≤ 100000) : g_Ct l D cI cJ cZ yL_low cL_low 2 (some .int) rm_L_low 0 0 [.int v, .int (nI n)] ([]) (g_eq (some (.int (nI (lwN v n)))) ([])) := by
  refine g_body RL [(0, .int v), (1, .int (nI n))] kH_L rfl (Nat.le_of_ble_eq_true rfl) rfl ?_
  intro p e s m args below meth c A X hr hlk hmn Q hQ
  obtain ⟨hv1, hv2⟩ := and31b v
  refine g_iload_n X 0 dL_low_0 rfl rfl ?_
  refine g_ldc X kN_L_9 dL_low_1 (v' := nI 2147483647) (by decide +kernel) ?_
  refine g_andi X (v := nI ((v &&& nI 2147483647).toInt.toNat)) dL_low_3 hv1 ?_
  refine g_iload_n X 1 dL_low_4 rfl rfl ?_
  refine g_irem X (v := nI ((v &&& nI 2147483647).toInt.toNat % n)) dL_low_5 (fun z => absurd (congrArg Int32.toInt z) (by rw [nI_toInt (by omega)]; show ¬ (n : Int) = 0; omega)) (pk_rem (by omega) (by omega) (by omega)) ?_
  refine g_iret X hr hlk hQ dL_low_6 ?_
  show g_eq _ _ _ _
  exact ⟨rfl, rfl⟩
theorem hV_L_beside : yL_beside.cls = RL ∧ yL_beside.cls ≠ "java/lang/invoke/MethodHandle" ∧ yL_beside.cls ≠ "java/lang/invoke/VarHandle" ∧ (parseMethodDescriptor yL_beside.desc).map (fun d => d.parameters.length) = some 2 := by decide +kernel
abbrev rm_L_beside : Room := { frames := 0, cells := 0, slots := 0, locals := 0 }
set_option maxRecDepth 100000 in
set_option maxHeartbeats 4000000 in
theorem m_L_beside (l : Launch) (D : va_G) (cI cJ cZ : ClassId) (b i : Nat) (hb : b < 12) (hi : i < 4) : g_Ct l D cI cJ cZ yL_beside cL_beside 2 (some .int) rm_L_beside 0 0 [.int (nI b), .int (nI i)] ([]) (g_eq (some (.int (bsd b i))) ([])) := by
  refine g_body RL [(0, .int (nI b)), (1, .int (nI i))] kH_L rfl (Nat.le_of_ble_eq_true rfl) rfl ?_
  intro p e s m args below meth c A X hr hlk hmn Q hQ
  refine g_iload_n X 1 dL_beside_0 rfl rfl ?_
  have J9 : ∀ (v8 : Int32), v8 = (if ¬ i = 0 then if ¬ i = 1 then if ¬ i = 2 then if b ≤ 3 then (-1 : Int32) else nI (b - 4) else if 8 ≤ b then (-1 : Int32) else nI (b + 4) else if (b % 4) ≤ 0 then (-1 : Int32) else nI (b - 1) else if 3 ≤ (b % 4) then (-1 : Int32) else nI (b + 1)) → g_G p l e rm_L_beside s m args below meth c D A 2 0 0 Q ([]) [] 75 [.int v8] := by
    intro v8 ev8
    refine g_iret X hr hlk hQ dL_beside_75 ?_
    show g_eq _ _ _ _
    try rw [ev8]
    refine ⟨congrArg (fun z => some (Value.int z)) ?_, rfl⟩
    unfold bsd
    (repeat' split) <;> first | rfl | omega
  refine g_iN_ne X (a := i) (tgt := 21) (by omega) dL_beside_1 (by decide) (fun h1 => ?_) (fun h1 => ?_)
  · --
    refine g_iload_n X 1 dL_beside_21 rfl rfl ?_
    refine g_iconst X (v := nI 1) dL_beside_22 (by decide +kernel) ?_
    refine g_icN_ne X (a := i) (b := 1) (tgt := 42) (by omega) (by omega) dL_beside_23 (by decide) (fun h2 => ?_) (fun h2 => ?_)
    · --
      refine g_iload_n X 1 dL_beside_42 rfl rfl ?_
      refine g_iconst X (v := nI 2) dL_beside_43 (by decide +kernel) ?_
      refine g_icN_ne X (a := i) (b := 2) (tgt := 63) (by omega) (by omega) dL_beside_44 (by decide) (fun h3 => ?_) (fun h3 => ?_)
      · --
        refine g_iload_n X 0 dL_beside_63 rfl rfl ?_
        refine g_iconst X (v := nI 3) dL_beside_64 (by decide +kernel) ?_
        refine g_icN_le X (a := b) (b := 3) (tgt := 74) (by omega) (by omega) dL_beside_65 (by decide) (fun h4 => ?_) (fun h4 => ?_)
        · --
          refine g_iconst X (v := (-1 : Int32)) dL_beside_74 (by decide +kernel) ?_
          refine g_lv _ [] rfl ?_
          exact J9 _ (by rw [if_pos (c := ¬ i = 0) h1, if_pos (c := ¬ i = 1) h2, if_pos (c := ¬ i = 2) h3, if_pos (c := b ≤ 3) h4])
        · --
          refine g_iload_n X 0 dL_beside_68 rfl rfl ?_
          refine g_iconst X (v := nI 4) dL_beside_69 (by decide +kernel) ?_
          refine g_isub X (v := nI (b - 4)) dL_beside_70 (pk_sub (by omega)) ?_
          refine g_goto X (tgt := 75) dL_beside_71 (by decide) ?_
          refine g_lv _ [] rfl ?_
          exact J9 _ (by rw [if_pos (c := ¬ i = 0) h1, if_pos (c := ¬ i = 1) h2, if_pos (c := ¬ i = 2) h3, if_neg (c := b ≤ 3) h4])
      · --
        refine g_iload_n X 0 dL_beside_47 rfl rfl ?_
        refine g_bipush X (v := nI 8) dL_beside_48 (by decide +kernel) ?_
        refine g_icN_ge X (a := b) (b := 8) (tgt := 59) (by omega) (by omega) dL_beside_50 (by decide) (fun h5 => ?_) (fun h5 => ?_)
        · --
          refine g_iconst X (v := (-1 : Int32)) dL_beside_59 (by decide +kernel) ?_
          refine g_goto X (tgt := 75) dL_beside_60 (by decide) ?_
          refine g_lv _ [] rfl ?_
          exact J9 _ (by rw [if_pos (c := ¬ i = 0) h1, if_pos (c := ¬ i = 1) h2, if_neg (c := ¬ i = 2) (fun z => z h3), if_pos (c := 8 ≤ b) h5])
        · --
          refine g_iload_n X 0 dL_beside_53 rfl rfl ?_
          refine g_iconst X (v := nI 4) dL_beside_54 (by decide +kernel) ?_
          refine g_iadd X (v := nI (b + 4)) dL_beside_55 ((nI_add _ _).trans (congrArg nI (by omega))) ?_
          refine g_goto X (tgt := 75) dL_beside_56 (by decide) ?_
          refine g_lv _ [] rfl ?_
          exact J9 _ (by rw [if_pos (c := ¬ i = 0) h1, if_pos (c := ¬ i = 1) h2, if_neg (c := ¬ i = 2) (fun z => z h3), if_neg (c := 8 ≤ b) h5])
    · --
      refine g_iload_n X 0 dL_beside_26 rfl rfl ?_
      refine g_iconst X (v := nI 4) dL_beside_27 (by decide +kernel) ?_
      refine g_irem X (v := nI (b % 4)) dL_beside_28 (by decide +kernel) (pk_rem (by omega) (by decide) (by decide)) ?_
      refine g_iN_le X (a := (b % 4)) (tgt := 38) (by omega) dL_beside_29 (by decide) (fun h6 => ?_) (fun h6 => ?_)
      · --
        refine g_iconst X (v := (-1 : Int32)) dL_beside_38 (by decide +kernel) ?_
        refine g_goto X (tgt := 75) dL_beside_39 (by decide) ?_
        refine g_lv _ [] rfl ?_
        exact J9 _ (by rw [if_pos (c := ¬ i = 0) h1, if_neg (c := ¬ i = 1) (fun z => z h2), if_pos (c := (b % 4) ≤ 0) h6])
      · --
        refine g_iload_n X 0 dL_beside_32 rfl rfl ?_
        refine g_iconst X (v := nI 1) dL_beside_33 (by decide +kernel) ?_
        refine g_isub X (v := nI (b - 1)) dL_beside_34 (pk_sub (by omega)) ?_
        refine g_goto X (tgt := 75) dL_beside_35 (by decide) ?_
        refine g_lv _ [] rfl ?_
        exact J9 _ (by rw [if_pos (c := ¬ i = 0) h1, if_neg (c := ¬ i = 1) (fun z => z h2), if_neg (c := (b % 4) ≤ 0) h6])
  · --
    refine g_iload_n X 0 dL_beside_4 rfl rfl ?_
    refine g_iconst X (v := nI 4) dL_beside_5 (by decide +kernel) ?_
    refine g_irem X (v := nI (b % 4)) dL_beside_6 (by decide +kernel) (pk_rem (by omega) (by decide) (by decide)) ?_
    refine g_iconst X (v := nI 3) dL_beside_7 (by decide +kernel) ?_
    refine g_icN_ge X (a := (b % 4)) (b := 3) (tgt := 17) (by omega) (by omega) dL_beside_8 (by decide) (fun h7 => ?_) (fun h7 => ?_)
    · --
      refine g_iconst X (v := (-1 : Int32)) dL_beside_17 (by decide +kernel) ?_
      refine g_goto X (tgt := 75) dL_beside_18 (by decide) ?_
      refine g_lv _ [] rfl ?_
      exact J9 _ (by rw [if_neg (c := ¬ i = 0) (fun z => z h1), if_pos (c := 3 ≤ (b % 4)) h7])
    · --
      refine g_iload_n X 0 dL_beside_11 rfl rfl ?_
      refine g_iconst X (v := nI 1) dL_beside_12 (by decide +kernel) ?_
      refine g_iadd X (v := nI (b + 1)) dL_beside_13 ((nI_add _ _).trans (congrArg nI (by omega))) ?_
      refine g_goto X (tgt := 75) dL_beside_14 (by decide) ?_
      refine g_lv _ [] rfl ?_
      exact J9 _ (by rw [if_neg (c := ¬ i = 0) (fun z => z h1), if_neg (c := 3 ≤ (b % 4)) h7])
theorem bsd_neg (b i : Nat) (hb : b < 12) (hi : i < 4) : bsd b i = -1 ∨ ∃ o, bsd b i = nI o ∧ o < 12 := by
  unfold bsd
  (repeat' split) <;> first | exact Or.inl rfl | exact Or.inr ⟨_, rfl, by omega⟩
/-- one of the four sides -/
def nrS (b o i : Nat) : Bool := decide (bsd b i = nI o)
def nrN (b o : Nat) (n : Nat) : Bool := itr (fun i r => if r = true then true else if ¬ bsd b i = nI o then false else true) (if ¬ b = o then false else true) n
theorem nrN_4 : ∀ b, b < 12 → ∀ o, o < 12 → nrN b o 4 = nrB b o := by decide +kernel

theorem hV_L_near : yL_near.cls = RL ∧ yL_near.cls ≠ "java/lang/invoke/MethodHandle" ∧ yL_near.cls ≠ "java/lang/invoke/VarHandle" ∧ (parseMethodDescriptor yL_near.desc).map (fun d => d.parameters.length) = some 2 := by decide +kernel
abbrev rm_L_near : Room := { frames := 1, cells := 0, slots := 0, locals := 21 }
set_option maxRecDepth 100000 in
set_option maxHeartbeats 4000000 in
theorem m_L_near (l : Launch) (D : va_G) (cI cJ cZ : ClassId) (b o : Nat) (hb : b < 12) (ho : o < 12) : g_Ct l D cI cJ cZ yL_near cL_near 4 (some .boolean) rm_L_near 0 0 [.int (nI b), .int (nI o)] ([]) (g_eq (some (.int (bI (nrB b o)))) ([])) := by
  refine g_body RL [(0, .int (nI b)), (1, .int (nI o))] kH_L rfl (Nat.le_of_ble_eq_true rfl) rfl ?_
  intro p e s m args below meth c A X hr hlk hmn Q hQ
  refine g_iload_n X 0 dL_near_0 rfl rfl ?_
  refine g_iload_n X 1 dL_near_1 rfl rfl ?_
  have J3 : ∀ (v2 : Bool), v2 = (if ¬ b = o then false else true) → g_G p l e rm_L_near s m args below meth c D A 4 0 0 Q ([]) [(0, .int (nI b)), (1, .int (nI o))] 10 [.int (bI v2)] := by
    intro v2 ev2
    refine g_istore_n X [(2, .int (bI v2)), (0, .int (nI b)), (1, .int (nI o))] dL_near_10 rfl (Nat.le_of_ble_eq_true rfl) rfl ?_
    refine g_iconst X (v := nI 0) dL_near_11 (by decide +kernel) ?_
    refine g_istore_n X [(3, .int (nI 0)), (2, .int (bI v2)), (0, .int (nI b)), (1, .int (nI o))] dL_near_12 rfl (Nat.le_of_ble_eq_true rfl) rfl ?_
    have L4 : ∀ (n6 i5 : Nat) (a7 : Bool), i5 + n6 = 4 → a7 = nrN b o i5 → g_G p l e rm_L_near s m args below meth c D A 4 0 0 Q ([]) [(0, .int (nI b)), (1, .int (nI o)), (2, .int (bI a7)), (3, .int (nI i5))] 13 [] := by
      intro n6
      induction n6 with
      | zero =>
        intro i5 a7 hi8 ea7
        obtain rfl : i5 = 4 := by omega
        refine g_iload_n X 3 dL_near_13 rfl rfl ?_
        refine g_iconst X (v := nI 4) dL_near_14 (by decide +kernel) ?_
        refine g_icN_ge X (a := 4) (b := 4) (tgt := 43) (by omega) (by omega) dL_near_15 (by decide) (fun h9 => ?_) (fun h9 => absurd h9 (by omega))
        refine g_iload_n X 2 dL_near_43 rfl rfl ?_
        refine g_zret X hr hlk hQ (bI_nar _) dL_near_44 ?_
        show g_eq _ _ _ _
        try rw [ea7]
        try rw [ev2]
        refine ⟨congrArg (fun z => some (Value.int (bI z))) (nrN_4 b hb o ho), rfl⟩
      | succ n6 ihL4 =>
        intro i5 a7 hi8 ea7
        have hlti5 : i5 < 4 := by omega
        refine g_iload_n X 3 dL_near_13 rfl rfl ?_
        refine g_iconst X (v := nI 4) dL_near_14 (by decide +kernel) ?_
        refine g_icN_ge X (a := i5) (b := 4) (tgt := 43) (by omega) (by omega) dL_near_15 (by decide) (fun h10 => absurd h10 (by omega)) (fun h10 => ?_)
        refine g_iload_n X 2 dL_near_18 rfl rfl ?_
        have J14 : ∀ (v13 : Bool), v13 = (if a7 = true then true else if ¬ (bsd b i5) = (nI o) then false else true) → g_G p l e rm_L_near s m args below meth c D A 4 0 0 Q ([]) [(0, .int (nI b)), (1, .int (nI o)), (3, .int (nI i5))] 36 [.int (bI v13)] := by
          intro v13 ev13
          refine g_istore_n X [(2, .int (bI v13)), (0, .int (nI b)), (1, .int (nI o)), (3, .int (nI i5))] dL_near_36 rfl (Nat.le_of_ble_eq_true rfl) rfl ?_
          refine g_iinc X [(3, .int (nI (i5 + 1))), (2, .int (bI v13)), (0, .int (nI b)), (1, .int (nI o))] (q := 3) (v := nI (i5 + 1)) dL_near_37 rfl ((congrArg (fun z => nI (i5) + z) (show Int32.ofInt 1 = nI 1 by decide +kernel)).trans ((nI_add _ _).trans (congrArg nI (by omega)))) (Nat.le_of_ble_eq_true rfl) rfl ?_
          refine g_goto X (tgt := 13) dL_near_40 (by decide) ?_
          refine g_lv _ [2, 3, 1, 0] rfl ?_
          exact ihL4 (i5 + 1) _ (by omega) (by (try rw [ev13]); (try rw [ea7]); first | done | (rfl))
        refine g_bI_ne X (tgt := 31) dL_near_19 (by decide) (fun h11 => ?_) (fun h11 => ?_)
        · --
          refine g_iconst X (v := nI 1) dL_near_31 (by decide +kernel) ?_
          refine g_goto X (tgt := 36) dL_near_32 (by decide) ?_
          refine g_lv _ [0, 1, 3] rfl ?_
          exact J14 _ (by rw [if_pos (c := a7 = true) h11])
        · --
          refine g_iload_n X 0 dL_near_22 rfl rfl ?_
          refine g_iload_n X 3 dL_near_23 rfl rfl ?_
          refine g_callS X (As := [.int (nI b), .int (nI i5)]) (rest := []) (m_L_beside l D cI cJ cZ b i5 hb (by omega)) kM_L_10 kT_yL_beside kZ_RL kC_yL_beside hV_L_beside rfl rfl rfl ⟨Nat.le_of_ble_eq_true rfl, Nat.le_of_ble_eq_true rfl⟩ ⟨Nat.le_of_ble_eq_true rfl, Nat.le_of_ble_eq_true rfl⟩ (Nat.le_of_ble_eq_true rfl) dL_near_24 rfl [] rfl rfl (g_kk1 (w2 := []) ⟨[], [], [], [], rfl, rfl, rfl, rfl, by decide, rfl, rfl⟩ ?_)
          refine g_iload_n X 1 dL_near_27 rfl rfl ?_
          refine g_icmp_ne X (tgt := 35) dL_near_28 (by decide) (fun h12 => ?_) (fun h12 => ?_)
          · --
            refine g_iconst X (v := nI 0) dL_near_35 (by decide +kernel) ?_
            refine g_lv _ [0, 1, 3] rfl ?_
            exact J14 _ (by rw [if_neg (c := a7 = true) (by rw [h11]; decide), if_pos (c := ¬ (bsd b i5) = (nI o)) h12])
          · --
            refine g_iconst X (v := nI 1) dL_near_31 (by decide +kernel) ?_
            refine g_goto X (tgt := 36) dL_near_32 (by decide) ?_
            refine g_lv _ [0, 1, 3] rfl ?_
            exact J14 _ (by rw [if_neg (c := a7 = true) (by rw [h11]; decide), if_neg (c := ¬ (bsd b i5) = (nI o)) (fun z => z h12)])
    refine g_lv _ [2, 3, 1, 0] rfl ?_
    exact L4 (4) 0 _ (by omega) (by first | rfl | ((try rw [ev2]); first | done | rfl))
  refine g_icN_ne X (a := b) (b := o) (tgt := 9) (by omega) (by omega) dL_near_2 (by decide) (fun h1 => ?_) (fun h1 => ?_)
  · --
    refine g_iconst X (v := nI 0) dL_near_9 (by decide +kernel) ?_
    exact J3 _ (by rw [if_pos (c := ¬ b = o) h1])
  · --
    refine g_iconst X (v := nI 1) dL_near_5 (by decide +kernel) ?_
    refine g_goto X (tgt := 10) dL_near_6 (by decide) ?_
    exact J3 _ (by rw [if_neg (c := ¬ b = o) (fun z => z h1)])
/-- the width of the crack on a side -/
def wdL (C : Cf) (b i : Nat) : Int32 := if i = 0 then C 0 b else if i = 1 then C 0 (b - 1) else if i = 2 then C 1 b else C 1 (b - 4)

theorem hV_L_width : yL_width.cls = RL ∧ yL_width.cls ≠ "java/lang/invoke/MethodHandle" ∧ yL_width.cls ≠ "java/lang/invoke/VarHandle" ∧ (parseMethodDescriptor yL_width.desc).map (fun d => d.parameters.length) = some 3 := by decide +kernel
abbrev rm_L_width : Room := { frames := 0, cells := 0, slots := 0, locals := 0 }
set_option maxRecDepth 100000 in
set_option maxHeartbeats 4000000 in
theorem m_L_width (l : Launch) (D : va_G) (cI cJ cZ : ClassId) (y : Nat → Nat) (C : Cf) (N : Nat → Nat) (S : St) (Qk : Nat → Int64) (b i : Nat) (hb : b < 12) (hi : i < 4) (hs : ¬ bsd b i = -1) : g_Ct l D cI cJ cZ yL_width cL_width 3 (some .int) rm_L_width 0 0 [.int (nI b), .int (nI i), .ref (y 4)] (wL y cI cJ C N S Qk) (g_eq (some (.int (wdL C b i))) (wL y cI cJ C N S Qk)) := by
  refine g_body RL [(0, .int (nI b)), (1, .int (nI i)), (2, .ref (y 4))] kH_L rfl (Nat.le_of_ble_eq_true rfl) rfl ?_
  intro p e s m args below meth c A X hr hlk hmn Q hQ
  have hs1 : i = 1 → 1 ≤ b := fun z => by subst z; exact Nat.le_of_not_lt fun w => hs (by unfold bsd; rw [if_neg (by omega), if_pos rfl, if_neg (by omega)])
  have hs3 : i = 3 → 4 ≤ b := fun z => by subst z; exact Nat.le_of_not_lt fun w => hs (by unfold bsd; rw [if_neg (by omega), if_neg (by omega), if_neg (by omega), if_neg (by omega)])
  refine g_iload_n X 1 dL_width_0 rfl rfl ?_
  have J5 : ∀ (v4 : Int32), v4 = (if ¬ i = 0 then if ¬ i = 1 then if ¬ i = 2 then C 1 (b - 4) else C 1 b else C 0 (b - 1) else C 0 b) → g_G p l e rm_L_width s m args below meth c D A 3 0 0 Q (wL y cI cJ C N S Qk) [] 50 [.int v4] := by
    intro v4 ev4
    refine g_iret X hr hlk hQ dL_width_50 ?_
    show g_eq _ _ _ _
    try rw [ev4]
    refine ⟨congrArg (fun z => some (Value.int z)) ?_, rfl⟩
    unfold wdL
    (repeat' split) <;> first | rfl | omega | (exfalso; omega)
  refine g_iN_ne X (a := i) (tgt := 12) (by omega) dL_width_1 (by decide) (fun h1 => ?_) (fun h1 => ?_)
  · --
    refine g_iload_n X 1 dL_width_12 rfl rfl ?_
    refine g_iconst X (v := nI 1) dL_width_13 (by decide +kernel) ?_
    refine g_icN_ne X (a := i) (b := 1) (tgt := 27) (by omega) (by omega) dL_width_14 (by decide) (fun h2 => ?_) (fun h2 => ?_)
    · --
      refine g_iload_n X 1 dL_width_27 rfl rfl ?_
      refine g_iconst X (v := nI 2) dL_width_28 (by decide +kernel) ?_
      refine g_icN_ne X (a := i) (b := 2) (tgt := 42) (by omega) (by omega) dL_width_29 (by decide) (fun h3 => ?_) (fun h3 => ?_)
      · --
        refine g_aload_n X 2 dL_width_42 rfl rfl ?_
        refine g_iconst X (v := nI 2) dL_width_43 (by decide +kernel) ?_
        refine g_iload_n X 0 dL_width_44 rfl rfl ?_
        refine g_imul X (v := nI (2 * b)) dL_width_45 (pk_mul _ _) ?_
        refine g_bipush X (v := nI 7) dL_width_46 (by decide +kernel) ?_
        refine g_isub X (v := nI (2 * (b - 4) + 1)) dL_width_48 ((pk_sub (by omega)).trans (congrArg nI (by omega))) ?_
        refine g_iald X 4 rfl (2 * (b - 4) + 1) rfl (by omega) (Nat.le_of_ble_eq_true rfl) (v := C 1 (b - 4)) (lrC_1 C (b - 4)) dL_width_49 ?_
        refine g_lv _ [] rfl ?_
        exact J5 _ (by rw [if_pos (c := ¬ i = 0) h1, if_pos (c := ¬ i = 1) h2, if_pos (c := ¬ i = 2) h3])
      · --
        refine g_aload_n X 2 dL_width_32 rfl rfl ?_
        refine g_iconst X (v := nI 2) dL_width_33 (by decide +kernel) ?_
        refine g_iload_n X 0 dL_width_34 rfl rfl ?_
        refine g_imul X (v := nI (2 * b)) dL_width_35 (pk_mul _ _) ?_
        refine g_iconst X (v := nI 1) dL_width_36 (by decide +kernel) ?_
        refine g_iadd X (v := nI (2 * b + 1)) dL_width_37 ((nI_add _ _).trans (congrArg nI (by omega))) ?_
        refine g_iald X 4 rfl (2 * b + 1) rfl (by omega) (Nat.le_of_ble_eq_true rfl) (v := C 1 b) (lrC_1 C b) dL_width_38 ?_
        refine g_goto X (tgt := 50) dL_width_39 (by decide) ?_
        refine g_lv _ [] rfl ?_
        exact J5 _ (by rw [if_pos (c := ¬ i = 0) h1, if_pos (c := ¬ i = 1) h2, if_neg (c := ¬ i = 2) (fun z => z h3)])
    · --
      refine g_aload_n X 2 dL_width_17 rfl rfl ?_
      refine g_iconst X (v := nI 2) dL_width_18 (by decide +kernel) ?_
      refine g_iload_n X 0 dL_width_19 rfl rfl ?_
      refine g_imul X (v := nI (2 * b)) dL_width_20 (pk_mul _ _) ?_
      refine g_iconst X (v := nI 2) dL_width_21 (by decide +kernel) ?_
      refine g_isub X (v := nI (2 * (b - 1))) dL_width_22 ((pk_sub (by omega)).trans (congrArg nI (by omega))) ?_
      refine g_iald X 4 rfl (2 * (b - 1)) rfl (by omega) (Nat.le_of_ble_eq_true rfl) (v := C 0 (b - 1)) (lrC_0 C (b - 1)) dL_width_23 ?_
      refine g_goto X (tgt := 50) dL_width_24 (by decide) ?_
      refine g_lv _ [] rfl ?_
      exact J5 _ (by rw [if_pos (c := ¬ i = 0) h1, if_neg (c := ¬ i = 1) (fun z => z h2)])
  · --
    refine g_aload_n X 2 dL_width_4 rfl rfl ?_
    refine g_iconst X (v := nI 2) dL_width_5 (by decide +kernel) ?_
    refine g_iload_n X 0 dL_width_6 rfl rfl ?_
    refine g_imul X (v := nI (2 * b)) dL_width_7 (pk_mul _ _) ?_
    refine g_iald X 4 rfl (2 * b) rfl (by omega) (Nat.le_of_ble_eq_true rfl) (v := C 0 b) (lrC_0 C b) dL_width_8 ?_
    refine g_goto X (tgt := 50) dL_width_9 (by decide) ?_
    refine g_lv _ [] rfl ?_
    exact J5 _ (by rw [if_neg (c := ¬ i = 0) (fun z => z h1)])
theorem hV_L_hot : yL_hot.cls = RL ∧ yL_hot.cls ≠ "java/lang/invoke/MethodHandle" ∧ yL_hot.cls ≠ "java/lang/invoke/VarHandle" ∧ (parseMethodDescriptor yL_hot.desc).map (fun d => d.parameters.length) = some 3 := by decide +kernel
abbrev rm_L_hot : Room := { frames := 0, cells := 0, slots := 0, locals := 0 }
set_option maxRecDepth 100000 in
set_option maxHeartbeats 4000000 in
theorem m_L_hot (l : Launch) (D : va_G) (cI cJ cZ : ClassId) (y : Nat → Nat) (C : Cf) (N : Nat → Nat) (S : St) (Qk : Nat → Int64) (b : Nat) (hb : b < 12) (hne : ¬ S 0 b + 20000 ≤ 0) : g_Ct l D cI cJ cZ yL_hot cL_hot 3 (some .long) rm_L_hot 0 0 [.int (nI b), .ref (y 0), .ref (y 1)] (wL y cI cJ C N S Qk) (g_eq (some (.long (deg S b))) (wL y cI cJ C N S Qk)) := by
  refine g_body RL [(0, .int (nI b)), (1, .ref (y 0)), (2, .ref (y 1))] kH_L rfl (Nat.le_of_ble_eq_true rfl) rfl ?_
  intro p e s m args below meth c A X hr hlk hmn Q hQ
  refine g_aload_n X 2 dL_hot_0 rfl rfl ?_
  refine g_iload_n X 0 dL_hot_1 rfl rfl ?_
  refine g_lald X 1 rfl (b) rfl (by omega) (Nat.le_of_ble_eq_true rfl) (v := S 1 b) rfl dL_hot_2 ?_
  refine g_aload_n X 1 dL_hot_3 rfl rfl ?_
  refine g_iload_n X 0 dL_hot_4 rfl rfl ?_
  refine g_lald X 0 rfl (b) rfl (by omega) (Nat.le_of_ble_eq_true rfl) (v := S 0 b) rfl dL_hot_5 ?_
  refine g_ldc2 X kL_L_16 dL_hot_6 ?_
  refine g_ladd X (v := (S 0 b) + (20000 : Int64)) dL_hot_9 rfl ?_
  refine g_ldiv X (v := (S 1 b) / ((S 0 b) + (20000 : Int64))) dL_hot_10 (ne_le0 hne) rfl ?_
  refine g_lret X hr hlk hQ dL_hot_11 ?_
  show g_eq _ _ _ _
  exact ⟨rfl, rfl⟩
theorem gvS_0 {S : St} {b : Nat} : giveS S b 0 = S := by
  have hg : gone S b 0 = 0 := by
    unfold gone
    by_cases h : S 0 b ≤ 0
    · rw [if_pos h]
    · rw [if_neg h, Int64.mul_zero, Int64.zero_div]
  unfold giveS
  rw [hg, Int64.zero_mul, Int64.sub_zero, Int64.sub_zero, Int64.sub_zero, u2_self, u2_self, u2_self]
theorem gone_0 {S : St} {b : Nat} : gone S b 0 = 0 := by
  unfold gone
  by_cases h : S 0 b ≤ 0
  · rw [if_pos h]
  · rw [if_neg h, Int64.mul_zero, Int64.zero_div]
theorem gone_p {S : St} {b : Nat} (x : Int64) (h : ¬ S 0 b ≤ 0) : gone S b x = S 2 b * x / S 0 b := if_neg h

theorem hV_L_gives : yL_gives.cls = RL ∧ yL_gives.cls ≠ "java/lang/invoke/MethodHandle" ∧ yL_gives.cls ≠ "java/lang/invoke/VarHandle" ∧ (parseMethodDescriptor yL_gives.desc).map (fun d => d.parameters.length) = some 5 := by decide +kernel
abbrev rm_L_gives : Room := { frames := 1, cells := 0, slots := 0, locals := 22 }
set_option maxRecDepth 100000 in
set_option maxHeartbeats 4000000 in
theorem m_L_gives (l : Launch) (D : va_G) (cI cJ cZ : ClassId) (y : Nat → Nat) (C : Cf) (N : Nat → Nat) (S : St) (Qk : Nat → Int64) (b : Nat) (x : Int64) (hb : b < 12) (hW : Wok S) (hx : x = 0 ∨ ¬ S 0 b ≤ 0) : g_Ct l D cI cJ cZ yL_gives cL_gives 10 (some .long) rm_L_gives 0 0 [.int (nI b), .long x, .ref (y 0), .ref (y 1), .ref (y 2)] (wL y cI cJ C N S Qk) (g_eq (some (.long (gone S b x))) (wL y cI cJ C N (giveS S b x) Qk)) := by
  refine g_body RL [(0, .int (nI b)), (1, .long x), (3, .ref (y 0)), (4, .ref (y 1)), (5, .ref (y 2))] kH_L rfl (Nat.le_of_ble_eq_true rfl) rfl ?_
  intro p e s m args below meth c A X hr hlk hmn Q hQ
  refine g_lload_n X 1 dL_gives_0 rfl rfl ?_
  refine g_lconst X (v := 0) dL_gives_1 (by decide +kernel) ?_
  refine g_lj_ne X (tgt := 8) (pc1 := 3) dL_gives_2 rfl dL_gives_3 (by decide) (fun h1 => ?_) (fun h1 => ?_)
  · --
    refine g_aload X 4 dL_gives_8 rfl ?_
    refine g_iload_n X 0 dL_gives_10 rfl rfl ?_
    refine g_lald X 2 rfl (b) rfl (by omega) (Nat.le_of_ble_eq_true rfl) (v := S 2 b) rfl dL_gives_11 ?_
    refine g_lload_n X 1 dL_gives_12 rfl rfl ?_
    refine g_lmul X (v := (S 2 b) * x) dL_gives_13 rfl ?_
    refine g_aload_n X 2 dL_gives_14 rfl rfl ?_
    refine g_iload_n X 0 dL_gives_15 rfl rfl ?_
    refine g_lald X 0 rfl (b) rfl (by omega) (Nat.le_of_ble_eq_true rfl) (v := S 0 b) rfl dL_gives_16 ?_
    refine g_ldiv X (v := ((S 2 b) * x) / (S 0 b)) dL_gives_17 (ne_le0 (hx.resolve_left (by assumption))) rfl ?_
    refine g_lstore X [(6, .long (((S 2 b) * x) / (S 0 b))), (0, .int (nI b)), (1, .long x), (3, .ref (y 0)), (4, .ref (y 1)), (5, .ref (y 2))] dL_gives_18 (Nat.le_of_ble_eq_true rfl) rfl ?_
    refine g_aload X 4 dL_gives_20 rfl ?_
    refine g_iload_n X 1 dL_gives_22 rfl rfl ?_
    refine g_lald X 1 rfl (b) rfl (by omega) (Nat.le_of_ble_eq_true rfl) (v := S 1 b) rfl dL_gives_23 ?_
    refine g_lload_n X 2 dL_gives_24 rfl rfl ?_
    refine g_iload_n X 1 dL_gives_25 rfl rfl ?_
    refine g_aload_n X 3 dL_gives_26 rfl rfl ?_
    refine g_aload X 4 dL_gives_27 rfl ?_
    refine g_callS X (As := [.int (nI b), .ref (y 0), .ref (y 1)]) (rest := [.long x, .long (S 1 b)]) (m_L_hot l D cI cJ cZ y C N S Qk b hb (hW.ne hb)) kM_L_18 kT_yL_hot kZ_RL kC_yL_hot hV_L_hot rfl rfl rfl ⟨Nat.le_of_ble_eq_true rfl, Nat.le_of_ble_eq_true rfl⟩ ⟨Nat.le_of_ble_eq_true rfl, Nat.le_of_ble_eq_true rfl⟩ (Nat.le_of_ble_eq_true rfl) dL_gives_29 rfl [0, 1, 2, 3, 4, 5, 6, 7, 8, 9, 10, 11, 12] rfl rfl (g_kk1 (w2 := wL y cI cJ C N S Qk) ⟨[0, 1, 2, 3, 4, 5, 6, 7, 8, 9, 10, 11, 12], [], [0, 1, 2, 3, 4, 5, 6, 7, 8, 9, 10, 11, 12], [], rfl, rfl, rfl, rfl, by decide, rfl, rfl⟩ ?_)
    refine g_lmul X (v := x * (deg S b)) dL_gives_32 rfl ?_
    refine g_lsub X (v := (S 1 b) - (x * (deg S b))) dL_gives_33 rfl ?_
    refine g_lstore X [(8, .long ((S 1 b) - (x * (deg S b)))), (6, .long (((S 2 b) * x) / (S 0 b))), (0, .int (nI b)), (1, .long x), (3, .ref (y 0)), (4, .ref (y 1)), (5, .ref (y 2))] dL_gives_34 (Nat.le_of_ble_eq_true rfl) rfl ?_
    refine g_aload X 5 dL_gives_36 rfl ?_
    refine g_iload_n X 2 dL_gives_38 rfl rfl ?_
    refine g_lload X 0 dL_gives_39 rfl ?_
    obtain ⟨S2, eS2⟩ : ∃ z : St, z = u2 S 1 b ((S 1 b) - (x * (deg S b))) := ⟨_, rfl⟩
    refine g_last X (ws' := wL y cI cJ C N S2 Qk) 1 rfl (b) rfl (by omega) (Nat.le_of_ble_eq_true rfl) dL_gives_41 (by rw [eS2]; first | done | (rfl)) ?_
    refine g_aload X 6 dL_gives_42 rfl ?_
    refine g_iload_n X 2 dL_gives_44 rfl rfl ?_
    refine g_dup2_11 X dL_gives_45 rfl rfl ?_
    refine g_lald X 2 rfl (b) rfl (by omega) (Nat.le_of_ble_eq_true rfl) (v := S2 2 b) rfl dL_gives_46 ?_
    refine g_lload X 1 dL_gives_47 rfl ?_
    refine g_lsub X (v := (S2 2 b) - (((S 2 b) * x) / (S 0 b))) dL_gives_49 rfl ?_
    obtain ⟨S3, eS3⟩ : ∃ z : St, z = u2 S2 2 b ((S2 2 b) - (((S 2 b) * x) / (S 0 b))) := ⟨_, rfl⟩
    refine g_last X (ws' := wL y cI cJ C N S3 Qk) 2 rfl (b) rfl (by omega) (Nat.le_of_ble_eq_true rfl) dL_gives_50 (by rw [eS3]; first | done | (rfl)) ?_
    refine g_aload_n X 4 dL_gives_51 rfl rfl ?_
    refine g_iload_n X 2 dL_gives_52 rfl rfl ?_
    refine g_dup2_11 X dL_gives_53 rfl rfl ?_
    refine g_lald X 0 rfl (b) rfl (by omega) (Nat.le_of_ble_eq_true rfl) (v := S3 0 b) rfl dL_gives_54 ?_
    refine g_lload_n X 3 dL_gives_55 rfl rfl ?_
    refine g_lsub X (v := (S3 0 b) - x) dL_gives_56 rfl ?_
    obtain ⟨S4, eS4⟩ : ∃ z : St, z = u2 S3 0 b ((S3 0 b) - x) := ⟨_, rfl⟩
    refine g_last X (ws' := wL y cI cJ C N S4 Qk) 0 rfl (b) rfl (by omega) (Nat.le_of_ble_eq_true rfl) dL_gives_57 (by rw [eS4]; first | done | (rfl)) ?_
    refine g_lload X 1 dL_gives_58 rfl ?_
    refine g_lret X hr hlk hQ dL_gives_60 ?_
    show g_eq _ _ _ _
    try rw [eS4]
    try rw [eS3]
    try rw [eS2]
    have hx1 := gone_p x (hx.resolve_left (by assumption))
    unfold giveS
    rw [hx1]
    exact ⟨rfl, rfl⟩
  · --
    refine g_lconst X (v := 0) dL_gives_6 (by decide +kernel) ?_
    refine g_lret X hr hlk hQ dL_gives_7 ?_
    show g_eq _ _ _ _
    have hx0 : x = 0 := by first | assumption | exact Decidable.not_not.mp (by assumption)
    rw [hx0, gvS_0, gone_0]
    exact ⟨rfl, rfl⟩
