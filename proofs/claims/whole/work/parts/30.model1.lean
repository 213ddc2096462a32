/-! the reference -/
def inB (v lo hi : Int32) : Bool := if v < lo then false else if hi < v then false else true
theorem lsr_m (x y : Int64) : (if y ≤ x then y else x) = (if y < x then y else x) := by
  by_cases h : y < x
  · rw [if_pos h, if_pos (Int64.le_of_lt h)]
  · rw [if_neg h]
    by_cases h2 : y ≤ x
    · rw [if_pos h2]
      exact Int64.le_antisymm h2 (Int64.not_lt.mp h)
    · rw [if_neg h2]
def rgt (b o : Nat) : Bool := if ¬ o = b + 1 then false else if 3 ≤ b % 4 then false else true
theorem nbr_m0 : ∀ b, b < 12 → ∀ o, o < 12 → (if rgt b o = true then true else if rgt o b = true then true else if o = b + 4 then true else if ¬ b = o + 4 then false else true) = nbr b o := by decide +kernel
def nrB (b o : Nat) : Bool := if b = o then true else if nbr b o = false then false else true
theorem nr_sym : ∀ b, b < 12 → ∀ o, o < 12 → nrB b o = nrB o b := by decide +kernel
theorem near_m (C : Cf) {k b : Nat} (hb : b < 12) (hs : spN C k < 12) : nrB b (spN C k) = nearS C k b := nr_sym b hb _ hs
theorem gone_m {S : St} (hW : Wok S) {b : Nat} (hb : b < 12) (x : Int64) : (if ¬ S 0 b = 0 then S 2 b * x / S 0 b else 0) = gone S b x := by
  unfold gone
  by_cases h : S 0 b = 0
  · rw [if_neg (fun z => z h), if_pos (by rw [h]; exact Int64.le_refl 0)]
  · rw [if_pos h, if_neg]
    intro h2
    have h3 := (hW b hb).1
    exact h (Int64.le_antisymm h2 (Int64.le_iff_toInt_le.mpr h3))
theorem mst_m (C : Cf) (N : Nat → Nat) (S : St) (w : Nat) : (if C 3 w = 0 then anyB (N 2) (dryB C S (plN C w)) else if ¬ lig S (plN C w) = 2 then false else true) = mst C N S w := by
  unfold mst
  by_cases h : C 3 w = 0
  · rw [if_pos h, if_pos h]
  · rw [if_neg h, if_neg h]
    by_cases h2 : lig S (plN C w) = 2 <;> simp [h2]
theorem bL_m (b : Bool) : (if b = false then (0 : Int64) else 1) = bL b := by cases b <;> rfl
theorem any_m (C : Cf) (S : St) {b i : Nat} (hb : b < 12) (hs : spN C i < 12) : (if anyB i (dryB C S b) = true then true else if nrB b (spN C i) = false then false else if (C 9 i).toInt64 ≤ S 0 (spN C i) then false else true) = anyB (i + 1) (dryB C S b) := by
  rw [near_m C hb hs]
  show _ = (anyB i (dryB C S b) || dryB C S b i)
  by_cases h1 : anyB i (dryB C S b) = true
  · rw [if_pos h1, h1, Bool.true_or]
  · rw [if_neg h1, Bool.eq_false_iff.mpr h1, Bool.false_or]
    show _ = (if nearS C i b = false then false else decide (S 0 (spN C i) < (C 9 i).toInt64))
    by_cases h2 : nearS C i b = false
    · rw [if_pos h2, if_pos h2]
    · rw [if_neg h2, if_neg h2]
      by_cases h3 : (C 9 i).toInt64 ≤ S 0 (spN C i)
      · rw [if_pos h3]; exact (decide_eq_false (Int64.not_lt.mpr h3)).symm
      · rw [if_neg h3]; exact (decide_eq_true (Int64.not_le.mp h3)).symm

theorem hV_X7_in : yX7_in.cls = RX7 ∧ yX7_in.cls ≠ "java/lang/invoke/MethodHandle" ∧ yX7_in.cls ≠ "java/lang/invoke/VarHandle" ∧ (parseMethodDescriptor yX7_in.desc).map (fun d => d.parameters.length) = some 3 := by decide +kernel
abbrev rm_X7_in : Room := { frames := 0, cells := 0, slots := 0, locals := 0 }
set_option maxRecDepth 100000 in
set_option maxHeartbeats 4000000 in
theorem m_X7_in (l : Launch) (D : va_G) (cI cJ cZ : ClassId) (v lo hi : Int32)  : g_Ct l D cI cJ cZ yX7_in cX7_in 3 (some .boolean) rm_X7_in 0 0 [.int v, .int lo, .int hi] ([]) (g_eq (some (.int (bI (inB v lo hi)))) ([])) := by
  refine g_body RX7 [(0, .int v), (1, .int lo), (2, .int hi)] kH_X7 rfl (Nat.le_of_ble_eq_true rfl) rfl ?_
  intro p e s m args below meth c A X hr hlk hmn Q hQ
  refine g_iload_n X 0 dX7_in_0 rfl rfl ?_
  refine g_iload_n X 1 dX7_in_1 rfl rfl ?_
  have J4 : ∀ (v3 : Bool), v3 = (if v < lo then false else if hi < v then false else true) → g_G p l e rm_X7_in s m args below meth c D A 3 0 0 Q ([]) [] 15 [.int (bI v3)] := by
    intro v3 ev3
    refine g_zret X hr hlk hQ (bI_nar _) dX7_in_15 ?_
    show g_eq _ _ _ _
    try rw [ev3]
    exact ⟨rfl, rfl⟩
  refine g_icmp_lt X (tgt := 14) dX7_in_2 (by decide) (fun h1 => ?_) (fun h1 => ?_)
  · --
    refine g_iconst X (v := nI 0) dX7_in_14 (by decide +kernel) ?_
    refine g_lv _ [] rfl ?_
    exact J4 _ (by rw [if_pos (c := v < lo) h1])
  · --
    refine g_iload_n X 0 dX7_in_5 rfl rfl ?_
    refine g_iload_n X 2 dX7_in_6 rfl rfl ?_
    refine g_icmp_gt X (tgt := 14) dX7_in_7 (by decide) (fun h2 => ?_) (fun h2 => ?_)
    · --
      refine g_iconst X (v := nI 0) dX7_in_14 (by decide +kernel) ?_
      refine g_lv _ [] rfl ?_
      exact J4 _ (by rw [if_neg (c := v < lo) h1, if_pos (c := hi < v) h2])
    · --
      refine g_iconst X (v := nI 1) dX7_in_10 (by decide +kernel) ?_
      refine g_goto X (tgt := 15) dX7_in_11 (by decide) ?_
      refine g_lv _ [] rfl ?_
      exact J4 _ (by rw [if_neg (c := v < lo) h1, if_neg (c := hi < v) h2])
theorem hV_X7_isBlock : yX7_isBlock.cls = RX7 ∧ yX7_isBlock.cls ≠ "java/lang/invoke/MethodHandle" ∧ yX7_isBlock.cls ≠ "java/lang/invoke/VarHandle" ∧ (parseMethodDescriptor yX7_isBlock.desc).map (fun d => d.parameters.length) = some 1 := by decide +kernel
abbrev rm_X7_isBlock : Room := { frames := 1, cells := 0, slots := 0, locals := 22 }
set_option maxRecDepth 100000 in
set_option maxHeartbeats 4000000 in
theorem m_X7_isBlock (l : Launch) (D : va_G) (cI cJ cZ : ClassId) (v : Int32)  : g_Ct l D cI cJ cZ yX7_isBlock cX7_isBlock 1 (some .boolean) rm_X7_isBlock 0 0 [.int v] ([]) (g_eq (some (.int (bI (inB v (nI 0) (nI 11))))) ([])) := by
  refine g_body RX7 [(0, .int v)] kH_X7 rfl (Nat.le_of_ble_eq_true rfl) rfl ?_
  intro p e s m args below meth c A X hr hlk hmn Q hQ
  refine g_iload_n X 0 dX7_isBlock_0 rfl rfl ?_
  refine g_iconst X (v := nI 0) dX7_isBlock_1 (by decide +kernel) ?_
  refine g_bipush X (v := nI 11) dX7_isBlock_2 (by decide +kernel) ?_
  refine g_callS X (As := [.int v, .int (nI 0), .int (nI 11)]) (rest := []) (m_X7_in l D cI cJ cZ v (nI 0) (nI 11) ) kM_X7_68 kT_yX7_in kZ_RX7 kC_yX7_in hV_X7_in rfl rfl rfl ⟨Nat.le_of_ble_eq_true rfl, Nat.le_of_ble_eq_true rfl⟩ ⟨Nat.le_of_ble_eq_true rfl, Nat.le_of_ble_eq_true rfl⟩ (Nat.le_of_ble_eq_true rfl) dX7_isBlock_4 rfl [] rfl rfl (g_kk1 (w2 := []) ⟨[], [], [], [], rfl, rfl, rfl, rfl, by decide, rfl, rfl⟩ ?_)
  refine g_zret X hr hlk hQ (bI_nar _) dX7_isBlock_7 ?_
  show g_eq _ _ _ _
  exact ⟨rfl, rfl⟩
theorem hV_X7_lesser : yX7_lesser.cls = RX7 ∧ yX7_lesser.cls ≠ "java/lang/invoke/MethodHandle" ∧ yX7_lesser.cls ≠ "java/lang/invoke/VarHandle" ∧ (parseMethodDescriptor yX7_lesser.desc).map (fun d => d.parameters.length) = some 2 := by decide +kernel
abbrev rm_X7_lesser : Room := { frames := 0, cells := 0, slots := 0, locals := 0 }
set_option maxRecDepth 100000 in
set_option maxHeartbeats 4000000 in
theorem m_X7_lesser (l : Launch) (D : va_G) (cI cJ cZ : ClassId) (x y : Int64)  : g_Ct l D cI cJ cZ yX7_lesser cX7_lesser 4 (some .long) rm_X7_lesser 0 0 [.long x, .long y] ([]) (g_eq (some (.long (if y < x then y else x))) ([])) := by
  refine g_body RX7 [(0, .long x), (2, .long y)] kH_X7 rfl (Nat.le_of_ble_eq_true rfl) rfl ?_
  intro p e s m args below meth c A X hr hlk hmn Q hQ
  refine g_lload_n X 0 dX7_lesser_0 rfl rfl ?_
  refine g_lload_n X 1 dX7_lesser_1 rfl rfl ?_
  have J3 : ∀ (v2 : Int64), v2 = (if y ≤ x then y else x) → g_G p l e rm_X7_lesser s m args below meth c D A 4 0 0 Q ([]) [] 11 [.long v2] := by
    intro v2 ev2
    refine g_lret X hr hlk hQ dX7_lesser_11 ?_
    show g_eq _ _ _ _
    try rw [ev2]
    refine ⟨congrArg (fun z => some (Value.long z)) (lsr_m x y), rfl⟩
  refine g_lj_ge X (tgt := 10) (pc1 := 3) dX7_lesser_2 rfl dX7_lesser_3 (by decide) (fun h1 => ?_) (fun h1 => ?_)
  · --
    refine g_lload_n X 1 dX7_lesser_10 rfl rfl ?_
    refine g_lv _ [] rfl ?_
    exact J3 _ (by rw [if_pos (c := y ≤ x) h1])
  · --
    refine g_lload_n X 0 dX7_lesser_6 rfl rfl ?_
    refine g_goto X (tgt := 11) dX7_lesser_7 (by decide) ?_
    refine g_lv _ [] rfl ?_
    exact J3 _ (by rw [if_neg (c := y ≤ x) h1])
theorem hV_X7_isRight : yX7_isRight.cls = RX7 ∧ yX7_isRight.cls ≠ "java/lang/invoke/MethodHandle" ∧ yX7_isRight.cls ≠ "java/lang/invoke/VarHandle" ∧ (parseMethodDescriptor yX7_isRight.desc).map (fun d => d.parameters.length) = some 2 := by decide +kernel
abbrev rm_X7_isRight : Room := { frames := 0, cells := 0, slots := 0, locals := 0 }
set_option maxRecDepth 100000 in
set_option maxHeartbeats 4000000 in
theorem m_X7_isRight (l : Launch) (D : va_G) (cI cJ cZ : ClassId) (b o : Nat) (hb : b < 12) (ho : o < 12) : g_Ct l D cI cJ cZ yX7_isRight cX7_isRight 2 (some .boolean) rm_X7_isRight 0 0 [.int (nI b), .int (nI o)] ([]) (g_eq (some (.int (bI (rgt b o)))) ([])) := by
  refine g_body RX7 [(0, .int (nI b)), (1, .int (nI o))] kH_X7 rfl (Nat.le_of_ble_eq_true rfl) rfl ?_
  intro p e s m args below meth c A X hr hlk hmn Q hQ
  refine g_iload_n X 1 dX7_isRight_0 rfl rfl ?_
  refine g_iload_n X 0 dX7_isRight_1 rfl rfl ?_
  refine g_iconst X (v := nI 1) dX7_isRight_2 (by decide +kernel) ?_
  refine g_iadd X (v := nI (b + 1)) dX7_isRight_3 ((nI_add _ _).trans (congrArg nI (by omega))) ?_
  have J4 : ∀ (v3 : Bool), v3 = (if ¬ o = b + 1 then false else if 3 ≤ (b % 4) then false else true) → g_G p l e rm_X7_isRight s m args below meth c D A 2 0 0 Q ([]) [] 19 [.int (bI v3)] := by
    intro v3 ev3
    refine g_zret X hr hlk hQ (bI_nar _) dX7_isRight_19 ?_
    show g_eq _ _ _ _
    try rw [ev3]
    exact ⟨rfl, rfl⟩
  refine g_icN_ne X (a := o) (b := b + 1) (tgt := 18) (by omega) (by omega) dX7_isRight_4 (by decide) (fun h1 => ?_) (fun h1 => ?_)
  · --
    refine g_iconst X (v := nI 0) dX7_isRight_18 (by decide +kernel) ?_
    refine g_lv _ [] rfl ?_
    exact J4 _ (by rw [if_pos (c := ¬ o = b + 1) h1])
  · --
    refine g_iload_n X 0 dX7_isRight_7 rfl rfl ?_
    refine g_iconst X (v := nI 4) dX7_isRight_8 (by decide +kernel) ?_
    refine g_irem X (v := nI (b % 4)) dX7_isRight_9 (by decide +kernel) (pk_rem (by omega) (by decide) (by decide)) ?_
    refine g_iconst X (v := nI 3) dX7_isRight_10 (by decide +kernel) ?_
    refine g_icN_ge X (a := (b % 4)) (b := 3) (tgt := 18) (by omega) (by omega) dX7_isRight_11 (by decide) (fun h2 => ?_) (fun h2 => ?_)
    · --
      refine g_iconst X (v := nI 0) dX7_isRight_18 (by decide +kernel) ?_
      refine g_lv _ [] rfl ?_
      exact J4 _ (by rw [if_neg (c := ¬ o = b + 1) (fun z => z h1), if_pos (c := 3 ≤ (b % 4)) h2])
    · --
      refine g_iconst X (v := nI 1) dX7_isRight_14 (by decide +kernel) ?_
      refine g_goto X (tgt := 19) dX7_isRight_15 (by decide) ?_
      refine g_lv _ [] rfl ?_
      exact J4 _ (by rw [if_neg (c := ¬ o = b + 1) (fun z => z h1), if_neg (c := 3 ≤ (b % 4)) h2])
theorem hV_X7_areNeighbours : yX7_areNeighbours.cls = RX7 ∧ yX7_areNeighbours.cls ≠ "java/lang/invoke/MethodHandle" ∧ yX7_areNeighbours.cls ≠ "java/lang/invoke/VarHandle" ∧ (parseMethodDescriptor yX7_areNeighbours.desc).map (fun d => d.parameters.length) = some 2 := by decide +kernel
abbrev rm_X7_areNeighbours : Room := { frames := 1, cells := 0, slots := 0, locals := 21 }
set_option maxRecDepth 100000 in
set_option maxHeartbeats 4000000 in
theorem m_X7_areNeighbours (l : Launch) (D : va_G) (cI cJ cZ : ClassId) (b o : Nat) (hb : b < 12) (ho : o < 12) : g_Ct l D cI cJ cZ yX7_areNeighbours cX7_areNeighbours 2 (some .boolean) rm_X7_areNeighbours 0 0 [.int (nI b), .int (nI o)] ([]) (g_eq (some (.int (bI (nbr b o)))) ([])) := by
  refine g_body RX7 [(0, .int (nI b)), (1, .int (nI o))] kH_X7 rfl (Nat.le_of_ble_eq_true rfl) rfl ?_
  intro p e s m args below meth c A X hr hlk hmn Q hQ
  refine g_iload_n X 0 dX7_areNeighbours_0 rfl rfl ?_
  refine g_iload_n X 1 dX7_areNeighbours_1 rfl rfl ?_
  refine g_callS X (As := [.int (nI b), .int (nI o)]) (rest := []) (m_X7_isRight l D cI cJ cZ b o (by omega) (by omega)) kM_X7_78 kT_yX7_isRight kZ_RX7 kC_yX7_isRight hV_X7_isRight rfl rfl rfl ⟨Nat.le_of_ble_eq_true rfl, Nat.le_of_ble_eq_true rfl⟩ ⟨Nat.le_of_ble_eq_true rfl, Nat.le_of_ble_eq_true rfl⟩ (Nat.le_of_ble_eq_true rfl) dX7_areNeighbours_2 rfl [] rfl rfl (g_kk1 (w2 := []) ⟨[], [], [], [], rfl, rfl, rfl, rfl, by decide, rfl, rfl⟩ ?_)
  have J6 : ∀ (v5 : Bool), v5 = (if (rgt b o) = true then true else if (rgt o b) = true then true else if o = b + 4 then true else if ¬ b = o + 4 then false else true) → g_G p l e rm_X7_areNeighbours s m args below meth c D A 2 0 0 Q ([]) [] 35 [.int (bI v5)] := by
    intro v5 ev5
    refine g_zret X hr hlk hQ (bI_nar _) dX7_areNeighbours_35 ?_
    show g_eq _ _ _ _
    try rw [ev5]
    refine ⟨congrArg (fun z => some (Value.int (bI z))) (nbr_m0 b hb o ho), rfl⟩
  refine g_bI_ne X (tgt := 30) dX7_areNeighbours_5 (by decide) (fun h1 => ?_) (fun h1 => ?_)
  · --
    refine g_iconst X (v := nI 1) dX7_areNeighbours_30 (by decide +kernel) ?_
    refine g_goto X (tgt := 35) dX7_areNeighbours_31 (by decide) ?_
    refine g_lv _ [] rfl ?_
    exact J6 _ (by rw [if_pos (c := (rgt b o) = true) h1])
  · --
    refine g_iload_n X 1 dX7_areNeighbours_8 rfl rfl ?_
    refine g_iload_n X 0 dX7_areNeighbours_9 rfl rfl ?_
    refine g_callS X (As := [.int (nI o), .int (nI b)]) (rest := []) (m_X7_isRight l D cI cJ cZ o b (by omega) (by omega)) kM_X7_78 kT_yX7_isRight kZ_RX7 kC_yX7_isRight hV_X7_isRight rfl rfl rfl ⟨Nat.le_of_ble_eq_true rfl, Nat.le_of_ble_eq_true rfl⟩ ⟨Nat.le_of_ble_eq_true rfl, Nat.le_of_ble_eq_true rfl⟩ (Nat.le_of_ble_eq_true rfl) dX7_areNeighbours_10 rfl [] rfl rfl (g_kk1 (w2 := []) ⟨[], [], [], [], rfl, rfl, rfl, rfl, by decide, rfl, rfl⟩ ?_)
    refine g_bI_ne X (tgt := 30) dX7_areNeighbours_13 (by decide) (fun h2 => ?_) (fun h2 => ?_)
    · --
      refine g_iconst X (v := nI 1) dX7_areNeighbours_30 (by decide +kernel) ?_
      refine g_goto X (tgt := 35) dX7_areNeighbours_31 (by decide) ?_
      refine g_lv _ [] rfl ?_
      exact J6 _ (by rw [if_neg (c := (rgt b o) = true) (by rw [h1]; decide), if_pos (c := (rgt o b) = true) h2])
    · --
      refine g_iload_n X 1 dX7_areNeighbours_16 rfl rfl ?_
      refine g_iload_n X 0 dX7_areNeighbours_17 rfl rfl ?_
      refine g_iconst X (v := nI 4) dX7_areNeighbours_18 (by decide +kernel) ?_
      refine g_iadd X (v := nI (b + 4)) dX7_areNeighbours_19 ((nI_add _ _).trans (congrArg nI (by omega))) ?_
      refine g_icN_eq X (a := o) (b := b + 4) (tgt := 30) (by omega) (by omega) dX7_areNeighbours_20 (by decide) (fun h3 => ?_) (fun h3 => ?_)
      · --
        refine g_iconst X (v := nI 1) dX7_areNeighbours_30 (by decide +kernel) ?_
        refine g_goto X (tgt := 35) dX7_areNeighbours_31 (by decide) ?_
        refine g_lv _ [] rfl ?_
        exact J6 _ (by rw [if_neg (c := (rgt b o) = true) (by rw [h1]; decide), if_neg (c := (rgt o b) = true) (by rw [h2]; decide), if_pos (c := o = b + 4) h3])
      · --
        refine g_iload_n X 0 dX7_areNeighbours_23 rfl rfl ?_
        refine g_iload_n X 1 dX7_areNeighbours_24 rfl rfl ?_
        refine g_iconst X (v := nI 4) dX7_areNeighbours_25 (by decide +kernel) ?_
        refine g_iadd X (v := nI (o + 4)) dX7_areNeighbours_26 ((nI_add _ _).trans (congrArg nI (by omega))) ?_
        refine g_icN_ne X (a := b) (b := o + 4) (tgt := 34) (by omega) (by omega) dX7_areNeighbours_27 (by decide) (fun h4 => ?_) (fun h4 => ?_)
        · --
          refine g_iconst X (v := nI 0) dX7_areNeighbours_34 (by decide +kernel) ?_
          refine g_lv _ [] rfl ?_
          exact J6 _ (by rw [if_neg (c := (rgt b o) = true) (by rw [h1]; decide), if_neg (c := (rgt o b) = true) (by rw [h2]; decide), if_neg (c := o = b + 4) h3, if_pos (c := ¬ b = o + 4) h4])
        · --
          refine g_iconst X (v := nI 1) dX7_areNeighbours_30 (by decide +kernel) ?_
          refine g_goto X (tgt := 35) dX7_areNeighbours_31 (by decide) ?_
          refine g_lv _ [] rfl ?_
          exact J6 _ (by rw [if_neg (c := (rgt b o) = true) (by rw [h1]; decide), if_neg (c := (rgt o b) = true) (by rw [h2]; decide), if_neg (c := o = b + 4) h3, if_neg (c := ¬ b = o + 4) (fun z => z h4)])
theorem hV_X7_isNear : yX7_isNear.cls = RX7 ∧ yX7_isNear.cls ≠ "java/lang/invoke/MethodHandle" ∧ yX7_isNear.cls ≠ "java/lang/invoke/VarHandle" ∧ (parseMethodDescriptor yX7_isNear.desc).map (fun d => d.parameters.length) = some 2 := by decide +kernel
abbrev rm_X7_isNear : Room := { frames := 2, cells := 0, slots := 0, locals := 42 }
set_option maxRecDepth 100000 in
set_option maxHeartbeats 4000000 in
theorem m_X7_isNear (l : Launch) (D : va_G) (cI cJ cZ : ClassId) (b o : Nat) (hb : b < 12) (ho : o < 12) : g_Ct l D cI cJ cZ yX7_isNear cX7_isNear 2 (some .boolean) rm_X7_isNear 0 0 [.int (nI b), .int (nI o)] ([]) (g_eq (some (.int (bI (nrB b o)))) ([])) := by
  refine g_body RX7 [(0, .int (nI b)), (1, .int (nI o))] kH_X7 rfl (Nat.le_of_ble_eq_true rfl) rfl ?_
  intro p e s m args below meth c A X hr hlk hmn Q hQ
  refine g_iload_n X 0 dX7_isNear_0 rfl rfl ?_
  refine g_iload_n X 1 dX7_isNear_1 rfl rfl ?_
  have J4 : ∀ (v3 : Bool), v3 = (if b = o then true else if (nbr b o) = false then false else true) → g_G p l e rm_X7_isNear s m args below meth c D A 2 0 0 Q ([]) [] 18 [.int (bI v3)] := by
    intro v3 ev3
    refine g_zret X hr hlk hQ (bI_nar _) dX7_isNear_18 ?_
    show g_eq _ _ _ _
    try rw [ev3]
    exact ⟨rfl, rfl⟩
  refine g_icN_eq X (a := b) (b := o) (tgt := 13) (by omega) (by omega) dX7_isNear_2 (by decide) (fun h1 => ?_) (fun h1 => ?_)
  · --
    refine g_iconst X (v := nI 1) dX7_isNear_13 (by decide +kernel) ?_
    refine g_goto X (tgt := 18) dX7_isNear_14 (by decide) ?_
    refine g_lv _ [] rfl ?_
    exact J4 _ (by rw [if_pos (c := b = o) h1])
  · --
    refine g_iload_n X 0 dX7_isNear_5 rfl rfl ?_
    refine g_iload_n X 1 dX7_isNear_6 rfl rfl ?_
    refine g_callS X (As := [.int (nI b), .int (nI o)]) (rest := []) (m_X7_areNeighbours l D cI cJ cZ b o (by omega) (by omega)) kM_X7_82 kT_yX7_areNeighbours kZ_RX7 kC_yX7_areNeighbours hV_X7_areNeighbours rfl rfl rfl ⟨Nat.le_of_ble_eq_true rfl, Nat.le_of_ble_eq_true rfl⟩ ⟨Nat.le_of_ble_eq_true rfl, Nat.le_of_ble_eq_true rfl⟩ (Nat.le_of_ble_eq_true rfl) dX7_isNear_7 rfl [] rfl rfl (g_kk1 (w2 := []) ⟨[], [], [], [], rfl, rfl, rfl, rfl, by decide, rfl, rfl⟩ ?_)
    refine g_bI_eq X (tgt := 17) dX7_isNear_10 (by decide) (fun h2 => ?_) (fun h2 => ?_)
    · --
      refine g_iconst X (v := nI 0) dX7_isNear_17 (by decide +kernel) ?_
      refine g_lv _ [] rfl ?_
      exact J4 _ (by rw [if_neg (c := b = o) h1, if_pos (c := (nbr b o) = false) h2])
    · --
      refine g_iconst X (v := nI 1) dX7_isNear_13 (by decide +kernel) ?_
      refine g_goto X (tgt := 18) dX7_isNear_14 (by decide) ?_
      refine g_lv _ [] rfl ?_
      exact J4 _ (by rw [if_neg (c := b = o) h1, if_neg (c := (nbr b o) = false) (by rw [h2]; decide)])
theorem hV_X7_thrown : yX7_thrown.cls = RX7 ∧ yX7_thrown.cls ≠ "java/lang/invoke/MethodHandle" ∧ yX7_thrown.cls ≠ "java/lang/invoke/VarHandle" ∧ (parseMethodDescriptor yX7_thrown.desc).map (fun d => d.parameters.length) = some 0 := by decide +kernel
abbrev rm_X7_thrown : Room := { frames := 0, cells := 0, slots := 0, locals := 0 }
set_option maxRecDepth 100000 in
set_option maxHeartbeats 4000000 in
theorem m_X7_thrown (l : Launch) (D : va_G) (cI cJ cZ : ClassId) (h : Nat → Nat) (th : Int32) (C : Cf) (N : Nat → Nat) (S : St) (Qk K P : Nat → Int64) (Y : St)  : g_Ct l D cI cJ cZ yX7_thrown cX7_thrown 1 (some .int) rm_X7_thrown 0 0 [.ref (h 0)] (wM h cI cJ cZ th C N S Qk K P Y) (g_eq (some (.int th)) (wM h cI cJ cZ th C N S Qk K P Y)) := by
  refine g_body RX7 [(0, .ref (h 0))] kH_X7 rfl (Nat.le_of_ble_eq_true rfl) rfl ?_
  intro p e s m args below meth c A X hr hlk hmn Q hQ
  refine g_aload_n X 0 dX7_thrown_0 rfl rfl ?_
  refine g_get X (C := RX7) (T := TX7) (N := 21) (v := .int th) inlX7 0 rfl rfl 0 (Nat.le_of_ble_eq_true rfl) kF_X7_64 rfl dX7_thrown_1 ?_
  refine g_iret X hr hlk hQ dX7_thrown_4 ?_
  show g_eq _ _ _ _
  exact ⟨rfl, rfl⟩
theorem hV_X7_isWell : yX7_isWell.cls = RX7 ∧ yX7_isWell.cls ≠ "java/lang/invoke/MethodHandle" ∧ yX7_isWell.cls ≠ "java/lang/invoke/VarHandle" ∧ (parseMethodDescriptor yX7_isWell.desc).map (fun d => d.parameters.length) = some 1 := by decide +kernel
abbrev rm_X7_isWell : Room := { frames := 1, cells := 0, slots := 0, locals := 22 }
set_option maxRecDepth 100000 in
set_option maxHeartbeats 4000000 in
theorem m_X7_isWell (l : Launch) (D : va_G) (cI cJ cZ : ClassId) (h : Nat → Nat) (th : Int32) (C : Cf) (N : Nat → Nat) (S : St) (Qk K P : Nat → Int64) (Y : St) (v : Int32)  : g_Ct l D cI cJ cZ yX7_isWell cX7_isWell 2 (some .boolean) rm_X7_isWell 0 0 [.ref (h 0), .int v] (wM h cI cJ cZ th C N S Qk K P Y) (g_eq (some (.int (bI (inB v (nI 0) (nI (N 0) - nI 1))))) (wM h cI cJ cZ th C N S Qk K P Y)) := by
  refine g_body RX7 [(0, .ref (h 0)), (1, .int v)] kH_X7 rfl (Nat.le_of_ble_eq_true rfl) rfl ?_
  intro p e s m args below meth c A X hr hlk hmn Q hQ
  refine g_iload_n X 1 dX7_isWell_0 rfl rfl ?_
  refine g_iconst X (v := nI 0) dX7_isWell_1 (by decide +kernel) ?_
  refine g_aload_n X 0 dX7_isWell_2 rfl rfl ?_
  refine g_get X (C := RX7) (T := TX7) (N := 21) (v := .int (nI (N 0))) inlX7 0 rfl rfl 6 (Nat.le_of_ble_eq_true rfl) kF_X7_72 rfl dX7_isWell_3 ?_
  refine g_iconst X (v := nI 1) dX7_isWell_6 (by decide +kernel) ?_
  refine g_isub X (v := (nI (N 0)) - (nI 1)) dX7_isWell_7 rfl ?_
  refine g_callS X (As := [.int v, .int (nI 0), .int ((nI (N 0)) - (nI 1))]) (rest := []) (m_X7_in l D cI cJ cZ v (nI 0) ((nI (N 0)) - (nI 1)) ) kM_X7_68 kT_yX7_in kZ_RX7 kC_yX7_in hV_X7_in rfl rfl rfl ⟨Nat.le_of_ble_eq_true rfl, Nat.le_of_ble_eq_true rfl⟩ ⟨Nat.le_of_ble_eq_true rfl, Nat.le_of_ble_eq_true rfl⟩ (Nat.le_of_ble_eq_true rfl) dX7_isWell_8 rfl [] rfl rfl (g_kk1 (w2 := wM h cI cJ cZ th C N S Qk K P Y) ⟨[], [0, 1, 2, 3, 4, 5, 6, 7, 8, 9, 10, 11, 12, 13, 14, 15, 16], [0, 1, 2, 3, 4, 5, 6, 7, 8, 9, 10, 11, 12, 13, 14, 15, 16], ([0, 1, 2, 3, 4, 5, 6, 7, 8, 9, 10, 11, 12, 13, 14, 15, 16].filterMap fun i => (wM h cI cJ cZ th C N S Qk K P Y)[i]?), rfl, rfl, rfl, rfl, by decide, rfl, rfl⟩ ?_)
  refine g_zret X hr hlk hQ (bI_nar _) dX7_isWell_11 ?_
  show g_eq _ _ _ _
  exact ⟨rfl, rfl⟩
theorem hV_X7_isSpring : yX7_isSpring.cls = RX7 ∧ yX7_isSpring.cls ≠ "java/lang/invoke/MethodHandle" ∧ yX7_isSpring.cls ≠ "java/lang/invoke/VarHandle" ∧ (parseMethodDescriptor yX7_isSpring.desc).map (fun d => d.parameters.length) = some 1 := by decide +kernel
abbrev rm_X7_isSpring : Room := { frames := 1, cells := 0, slots := 0, locals := 22 }
set_option maxRecDepth 100000 in
set_option maxHeartbeats 4000000 in
theorem m_X7_isSpring (l : Launch) (D : va_G) (cI cJ cZ : ClassId) (h : Nat → Nat) (th : Int32) (C : Cf) (N : Nat → Nat) (S : St) (Qk K P : Nat → Int64) (Y : St) (v : Int32)  : g_Ct l D cI cJ cZ yX7_isSpring cX7_isSpring 2 (some .boolean) rm_X7_isSpring 0 0 [.ref (h 0), .int v] (wM h cI cJ cZ th C N S Qk K P Y) (g_eq (some (.int (bI (inB v (nI 0) (nI (N 2) - nI 1))))) (wM h cI cJ cZ th C N S Qk K P Y)) := by
  refine g_body RX7 [(0, .ref (h 0)), (1, .int v)] kH_X7 rfl (Nat.le_of_ble_eq_true rfl) rfl ?_
  intro p e s m args below meth c A X hr hlk hmn Q hQ
  refine g_iload_n X 1 dX7_isSpring_0 rfl rfl ?_
  refine g_iconst X (v := nI 0) dX7_isSpring_1 (by decide +kernel) ?_
  refine g_aload_n X 0 dX7_isSpring_2 rfl rfl ?_
  refine g_get X (C := RX7) (T := TX7) (N := 21) (v := .int (nI (N 2))) inlX7 0 rfl rfl 14 (Nat.le_of_ble_eq_true rfl) kF_X7_75 rfl dX7_isSpring_3 ?_
  refine g_iconst X (v := nI 1) dX7_isSpring_6 (by decide +kernel) ?_
  refine g_isub X (v := (nI (N 2)) - (nI 1)) dX7_isSpring_7 rfl ?_
  refine g_callS X (As := [.int v, .int (nI 0), .int ((nI (N 2)) - (nI 1))]) (rest := []) (m_X7_in l D cI cJ cZ v (nI 0) ((nI (N 2)) - (nI 1)) ) kM_X7_68 kT_yX7_in kZ_RX7 kC_yX7_in hV_X7_in rfl rfl rfl ⟨Nat.le_of_ble_eq_true rfl, Nat.le_of_ble_eq_true rfl⟩ ⟨Nat.le_of_ble_eq_true rfl, Nat.le_of_ble_eq_true rfl⟩ (Nat.le_of_ble_eq_true rfl) dX7_isSpring_8 rfl [] rfl rfl (g_kk1 (w2 := wM h cI cJ cZ th C N S Qk K P Y) ⟨[], [0, 1, 2, 3, 4, 5, 6, 7, 8, 9, 10, 11, 12, 13, 14, 15, 16], [0, 1, 2, 3, 4, 5, 6, 7, 8, 9, 10, 11, 12, 13, 14, 15, 16], ([0, 1, 2, 3, 4, 5, 6, 7, 8, 9, 10, 11, 12, 13, 14, 15, 16].filterMap fun i => (wM h cI cJ cZ th C N S Qk K P Y)[i]?), rfl, rfl, rfl, rfl, by decide, rfl, rfl⟩ ?_)
  refine g_zret X hr hlk hQ (bI_nar _) dX7_isSpring_11 ?_
  show g_eq _ _ _ _
  exact ⟨rfl, rfl⟩
theorem hV_X7_degrees : yX7_degrees.cls = RX7 ∧ yX7_degrees.cls ≠ "java/lang/invoke/MethodHandle" ∧ yX7_degrees.cls ≠ "java/lang/invoke/VarHandle" ∧ (parseMethodDescriptor yX7_degrees.desc).map (fun d => d.parameters.length) = some 1 := by decide +kernel
abbrev rm_X7_degrees : Room := { frames := 0, cells := 0, slots := 0, locals := 0 }
set_option maxRecDepth 100000 in
set_option maxHeartbeats 4000000 in
theorem m_X7_degrees (l : Launch) (D : va_G) (cI cJ cZ : ClassId) (h : Nat → Nat) (th : Int32) (C : Cf) (N : Nat → Nat) (S : St) (Qk K P : Nat → Int64) (Y : St) (b : Nat) (hb : b < 12) (hne : ¬ S 0 b + 20000 ≤ 0) : g_Ct l D cI cJ cZ yX7_degrees cX7_degrees 2 (some .long) rm_X7_degrees 0 0 [.ref (h 0), .int (nI b)] (wM h cI cJ cZ th C N S Qk K P Y) (g_eq (some (.long (deg S b))) (wM h cI cJ cZ th C N S Qk K P Y)) := by
  refine g_body RX7 [(0, .ref (h 0)), (1, .int (nI b))] kH_X7 rfl (Nat.le_of_ble_eq_true rfl) rfl ?_
  intro p e s m args below meth c A X hr hlk hmn Q hQ
  refine g_aload_n X 0 dX7_degrees_0 rfl rfl ?_
  refine g_get X (C := RX7) (T := TX7) (N := 21) (v := .ref (h 1)) inlX7 0 rfl rfl 1 (Nat.le_of_ble_eq_true rfl) kF_X7_7 rfl dX7_degrees_1 ?_
  refine g_bipush X (v := nI 12) dX7_degrees_4 (by decide +kernel) ?_
  refine g_iload_n X 1 dX7_degrees_6 rfl rfl ?_
  refine g_iadd X (v := nI (b + 12)) dX7_degrees_7 ((nI_add _ _).trans (congrArg nI (by omega))) ?_
  refine g_lald X 1 rfl (12 + b) (congrArg nI (show b + 12 = 12 + b by omega)) (by omega) (Nat.le_of_ble_eq_true rfl) (v := S 1 b) (fl_1 _ _ (i := b) (by omega)) dX7_degrees_8 ?_
  refine g_aload_n X 0 dX7_degrees_9 rfl rfl ?_
  refine g_get X (C := RX7) (T := TX7) (N := 21) (v := .ref (h 1)) inlX7 0 rfl rfl 1 (Nat.le_of_ble_eq_true rfl) kF_X7_7 rfl dX7_degrees_10 ?_
  refine g_iconst X (v := nI 0) dX7_degrees_13 (by decide +kernel) ?_
  refine g_iload_n X 1 dX7_degrees_14 rfl rfl ?_
  refine g_iadd X (v := nI b) dX7_degrees_15 ((nI_add _ _).trans (congrArg nI (by omega))) ?_
  refine g_lald X 1 rfl (0 + b) (congrArg nI (show b = 0 + b by omega)) (by omega) (Nat.le_of_ble_eq_true rfl) (v := S 0 b) (fl_0 _ _ (i := b) (by omega)) dX7_degrees_16 ?_
  refine g_ldc2 X kL_X7_85 dX7_degrees_17 ?_
  refine g_ladd X (v := (S 0 b) + (20000 : Int64)) dX7_degrees_20 rfl ?_
  refine g_ldiv X (v := (S 1 b) / ((S 0 b) + (20000 : Int64))) dX7_degrees_21 (ne_le0 hne) rfl ?_
  refine g_lret X hr hlk hQ dX7_degrees_22 ?_
  show g_eq _ _ _ _
  exact ⟨rfl, rfl⟩
theorem hV_X7_light : yX7_light.cls = RX7 ∧ yX7_light.cls ≠ "java/lang/invoke/MethodHandle" ∧ yX7_light.cls ≠ "java/lang/invoke/VarHandle" ∧ (parseMethodDescriptor yX7_light.desc).map (fun d => d.parameters.length) = some 1 := by decide +kernel
abbrev rm_X7_light : Room := { frames := 0, cells := 0, slots := 0, locals := 0 }
set_option maxRecDepth 100000 in
set_option maxHeartbeats 4000000 in
theorem m_X7_light (l : Launch) (D : va_G) (cI cJ cZ : ClassId) (h : Nat → Nat) (th : Int32) (C : Cf) (N : Nat → Nat) (S : St) (Qk K P : Nat → Int64) (Y : St) (b : Nat) (hb : b < 12) : g_Ct l D cI cJ cZ yX7_light cX7_light 2 (some .int) rm_X7_light 0 0 [.ref (h 0), .int (nI b)] (wM h cI cJ cZ th C N S Qk K P Y) (g_eq (some (.int (nI (lig S b)))) (wM h cI cJ cZ th C N S Qk K P Y)) := by
  refine g_body RX7 [(0, .ref (h 0)), (1, .int (nI b))] kH_X7 rfl (Nat.le_of_ble_eq_true rfl) rfl ?_
  intro p e s m args below meth c A X hr hlk hmn Q hQ
  refine g_aload_n X 0 dX7_light_0 rfl rfl ?_
  refine g_get X (C := RX7) (T := TX7) (N := 21) (v := .ref (h 1)) inlX7 0 rfl rfl 1 (Nat.le_of_ble_eq_true rfl) kF_X7_7 rfl dX7_light_1 ?_
  refine g_bipush X (v := nI 36) dX7_light_4 (by decide +kernel) ?_
  refine g_iload_n X 1 dX7_light_6 rfl rfl ?_
  refine g_iadd X (v := nI (b + 36)) dX7_light_7 ((nI_add _ _).trans (congrArg nI (by omega))) ?_
  refine g_lald X 1 rfl (36 + b) (congrArg nI (show b + 36 = 36 + b by omega)) (by omega) (Nat.le_of_ble_eq_true rfl) (v := S 3 b) (fl_3 _ _ (i := b) (by omega)) dX7_light_8 ?_
  refine g_ldc2 X kL_X7_87 dX7_light_9 ?_
  have J4 : ∀ (v3 : Nat), v3 = (if (1000 : Int64) ≤ (S 3 b) then if (2000 : Int64) ≤ (S 3 b) then 2 else 1 else 0) → g_G p l e rm_X7_light s m args below meth c D A 2 0 0 Q (wM h cI cJ cZ th C N S Qk K P Y) [] 41 [.int (nI v3)] := by
    intro v3 ev3
    have bv3 : v3 < 2147483648 := by subst ev3; (repeat' split) <;> omega
    refine g_iret X hr hlk hQ dX7_light_41 ?_
    show g_eq _ _ _ _
    try rw [ev3]
    exact ⟨rfl, rfl⟩
  refine g_lj_ge X (tgt := 20) (pc1 := 13) dX7_light_12 rfl dX7_light_13 (by decide) (fun h1 => ?_) (fun h1 => ?_)
  · --
    refine g_aload_n X 0 dX7_light_20 rfl rfl ?_
    refine g_get X (C := RX7) (T := TX7) (N := 21) (v := .ref (h 1)) inlX7 0 rfl rfl 1 (Nat.le_of_ble_eq_true rfl) kF_X7_7 rfl dX7_light_21 ?_
    refine g_bipush X (v := nI 36) dX7_light_24 (by decide +kernel) ?_
    refine g_iload_n X 1 dX7_light_26 rfl rfl ?_
    refine g_iadd X (v := nI (b + 36)) dX7_light_27 ((nI_add _ _).trans (congrArg nI (by omega))) ?_
    refine g_lald X 1 rfl (36 + b) (congrArg nI (show b + 36 = 36 + b by omega)) (by omega) (Nat.le_of_ble_eq_true rfl) (v := S 3 b) (fl_3 _ _ (i := b) (by omega)) dX7_light_28 ?_
    refine g_ldc2 X kL_X7_89 dX7_light_29 ?_
    refine g_lj_ge X (tgt := 40) (pc1 := 33) dX7_light_32 rfl dX7_light_33 (by decide) (fun h2 => ?_) (fun h2 => ?_)
    · --
      refine g_iconst X (v := nI 2) dX7_light_40 (by decide +kernel) ?_
      refine g_lv _ [] rfl ?_
      exact J4 _ (by rw [if_pos (c := (1000 : Int64) ≤ (S 3 b)) h1, if_pos (c := (2000 : Int64) ≤ (S 3 b)) h2])
    · --
      refine g_iconst X (v := nI 1) dX7_light_36 (by decide +kernel) ?_
      refine g_goto X (tgt := 41) dX7_light_37 (by decide) ?_
      refine g_lv _ [] rfl ?_
      exact J4 _ (by rw [if_pos (c := (1000 : Int64) ≤ (S 3 b)) h1, if_neg (c := (2000 : Int64) ≤ (S 3 b)) h2])
  · --
    refine g_iconst X (v := nI 0) dX7_light_16 (by decide +kernel) ?_
    refine g_goto X (tgt := 41) dX7_light_17 (by decide) ?_
    refine g_lv _ [] rfl ?_
    exact J4 _ (by rw [if_neg (c := (1000 : Int64) ≤ (S 3 b)) h1])
theorem hV_X7_gives : yX7_gives.cls = RX7 ∧ yX7_gives.cls ≠ "java/lang/invoke/MethodHandle" ∧ yX7_gives.cls ≠ "java/lang/invoke/VarHandle" ∧ (parseMethodDescriptor yX7_gives.desc).map (fun d => d.parameters.length) = some 2 := by decide +kernel
abbrev rm_X7_gives : Room := { frames := 1, cells := 0, slots := 0, locals := 21 }
set_option maxRecDepth 100000 in
set_option maxHeartbeats 4000000 in
theorem m_X7_gives (l : Launch) (D : va_G) (cI cJ cZ : ClassId) (h : Nat → Nat) (th : Int32) (C : Cf) (N : Nat → Nat) (S : St) (Qk K P : Nat → Int64) (Y : St) (b : Nat) (x : Int64) (hb : b < 12) (hW : Wok S) : g_Ct l D cI cJ cZ yX7_gives cX7_gives 6 (some .long) rm_X7_gives 0 0 [.ref (h 0), .int (nI b), .long x] (wM h cI cJ cZ th C N S Qk K P Y) (g_eq (some (.long (gone S b x))) (wM h cI cJ cZ th C N (giveS S b x) Qk K P Y)) := by
  refine g_body RX7 [(0, .ref (h 0)), (1, .int (nI b)), (2, .long x)] kH_X7 rfl (Nat.le_of_ble_eq_true rfl) rfl ?_
  intro p e s m args below meth c A X hr hlk hmn Q hQ
  refine g_aload_n X 0 dX7_gives_0 rfl rfl ?_
  refine g_get X (C := RX7) (T := TX7) (N := 21) (v := .ref (h 1)) inlX7 0 rfl rfl 1 (Nat.le_of_ble_eq_true rfl) kF_X7_7 rfl dX7_gives_1 ?_
  refine g_iconst X (v := nI 0) dX7_gives_4 (by decide +kernel) ?_
  refine g_iload_n X 1 dX7_gives_5 rfl rfl ?_
  refine g_iadd X (v := nI b) dX7_gives_6 ((nI_add _ _).trans (congrArg nI (by omega))) ?_
  refine g_lald X 1 rfl (0 + b) (congrArg nI (show b = 0 + b by omega)) (by omega) (Nat.le_of_ble_eq_true rfl) (v := S 0 b) (fl_0 _ _ (i := b) (by omega)) dX7_gives_7 ?_
  refine g_lconst X (v := 0) dX7_gives_8 (by decide +kernel) ?_
  have J3 : ∀ (v2 : Int64), v2 = (if ¬ (S 0 b) = (0 : Int64) then ((S 2 b) * x) / (S 0 b) else (0 : Int64)) → g_G p l e rm_X7_gives s m args below meth c D A 6 0 0 Q (wM h cI cJ cZ th C N S Qk K P Y) [(0, .ref (h 0)), (1, .int (nI b)), (2, .long x)] 37 [.long v2] := by
    intro v2 ev2
    replace ev2 := ev2.trans (gone_m hW hb x)
    refine g_lstore X [(4, .long v2), (0, .ref (h 0)), (1, .int (nI b)), (2, .long x)] dX7_gives_37 (Nat.le_of_ble_eq_true rfl) rfl ?_
    refine g_aload_n X 1 dX7_gives_39 rfl rfl ?_
    refine g_get X (C := RX7) (T := TX7) (N := 21) (v := .ref (h 1)) inlX7 0 rfl rfl 1 (Nat.le_of_ble_eq_true rfl) kF_X7_7 rfl dX7_gives_40 ?_
    refine g_bipush X (v := nI 12) dX7_gives_43 (by decide +kernel) ?_
    refine g_iload_n X 2 dX7_gives_45 rfl rfl ?_
    refine g_iadd X (v := nI (b + 12)) dX7_gives_46 ((nI_add _ _).trans (congrArg nI (by omega))) ?_
    refine g_dup2_11 X dX7_gives_47 rfl rfl ?_
    refine g_lald X 1 rfl (12 + b) (congrArg nI (show b + 12 = 12 + b by omega)) (by omega) (Nat.le_of_ble_eq_true rfl) (v := S 1 b) (fl_1 _ _ (i := b) (by omega)) dX7_gives_48 ?_
    refine g_lload_n X 3 dX7_gives_49 rfl rfl ?_
    refine g_aload_n X 1 dX7_gives_50 rfl rfl ?_
    refine g_iload_n X 2 dX7_gives_51 rfl rfl ?_
    refine g_callV X (As := [.int (nI b)]) (rest := [.long x, .long (S 1 b), .int (nI (b + 12)), .ref (h 1)]) (m_X7_degrees l D cI cJ cZ h th C N S Qk K P Y b hb (hW.ne hb)) kM_X7_111 kI_yX7_degrees kS_yX7_degrees kZ_RX7 kC_yX7_degrees hV_X7_degrees rfl rfl rfl 0 rfl (ci := 7) rfl ⟨Nat.le_of_ble_eq_true rfl, Nat.le_of_ble_eq_true rfl⟩ ⟨Nat.le_of_ble_eq_true rfl, Nat.le_of_ble_eq_true rfl⟩ (Nat.le_of_ble_eq_true rfl) dX7_gives_52 rfl [0, 1, 2, 3, 4, 5, 6, 7, 8, 9, 10, 11, 12, 13, 14, 15, 16] rfl rfl (g_kk1 (w2 := wM h cI cJ cZ th C N S Qk K P Y) ⟨[0, 1, 2, 3, 4, 5, 6, 7, 8, 9, 10, 11, 12, 13, 14, 15, 16], [], [0, 1, 2, 3, 4, 5, 6, 7, 8, 9, 10, 11, 12, 13, 14, 15, 16], [], rfl, rfl, rfl, rfl, by decide, rfl, rfl⟩ ?_)
    refine g_lmul X (v := x * (deg S b)) dX7_gives_55 rfl ?_
    refine g_lsub X (v := (S 1 b) - (x * (deg S b))) dX7_gives_56 rfl ?_
    obtain ⟨S4, eS4⟩ : ∃ z : St, z = u2 S 1 b ((S 1 b) - (x * (deg S b))) := ⟨_, rfl⟩
    refine g_last X (ws' := wM h cI cJ cZ th C N S4 Qk K P Y) 1 rfl (12 + b) (congrArg nI (show b + 12 = 12 + b by omega)) (by omega) (Nat.le_of_ble_eq_true rfl) dX7_gives_57 (by rw [eS4]; first | done | (rw [flu_1 _ _ (i := b) _ (by omega)]; rfl)) ?_
    refine g_aload_n X 1 dX7_gives_58 rfl rfl ?_
    refine g_get X (C := RX7) (T := TX7) (N := 21) (v := .ref (h 1)) inlX7 0 rfl rfl 1 (Nat.le_of_ble_eq_true rfl) kF_X7_7 rfl dX7_gives_59 ?_
    refine g_bipush X (v := nI 24) dX7_gives_62 (by decide +kernel) ?_
    refine g_iload_n X 2 dX7_gives_64 rfl rfl ?_
    refine g_iadd X (v := nI (b + 24)) dX7_gives_65 ((nI_add _ _).trans (congrArg nI (by omega))) ?_
    refine g_dup2_11 X dX7_gives_66 rfl rfl ?_
    refine g_lald X 1 rfl (24 + b) (congrArg nI (show b + 24 = 24 + b by omega)) (by omega) (Nat.le_of_ble_eq_true rfl) (v := S4 2 b) (fl_2 _ _ (i := b) (by omega)) dX7_gives_67 ?_
    refine g_lload X 0 dX7_gives_68 rfl ?_
    refine g_lsub X (v := (S4 2 b) - v2) dX7_gives_70 rfl ?_
    obtain ⟨S5, eS5⟩ : ∃ z : St, z = u2 S4 2 b ((S4 2 b) - v2) := ⟨_, rfl⟩
    refine g_last X (ws' := wM h cI cJ cZ th C N S5 Qk K P Y) 1 rfl (24 + b) (congrArg nI (show b + 24 = 24 + b by omega)) (by omega) (Nat.le_of_ble_eq_true rfl) dX7_gives_71 (by rw [eS5]; first | done | (rw [flu_2 _ _ (i := b) _ (by omega)]; rfl)) ?_
    refine g_aload_n X 1 dX7_gives_72 rfl rfl ?_
    refine g_get X (C := RX7) (T := TX7) (N := 21) (v := .ref (h 1)) inlX7 0 rfl rfl 1 (Nat.le_of_ble_eq_true rfl) kF_X7_7 rfl dX7_gives_73 ?_
    refine g_iconst X (v := nI 0) dX7_gives_76 (by decide +kernel) ?_
    refine g_iload_n X 2 dX7_gives_77 rfl rfl ?_
    refine g_iadd X (v := nI b) dX7_gives_78 ((nI_add _ _).trans (congrArg nI (by omega))) ?_
    refine g_dup2_11 X dX7_gives_79 rfl rfl ?_
    refine g_lald X 1 rfl (0 + b) (congrArg nI (show b = 0 + b by omega)) (by omega) (Nat.le_of_ble_eq_true rfl) (v := S5 0 b) (fl_0 _ _ (i := b) (by omega)) dX7_gives_80 ?_
    refine g_lload_n X 3 dX7_gives_81 rfl rfl ?_
    refine g_lsub X (v := (S5 0 b) - x) dX7_gives_82 rfl ?_
    obtain ⟨S6, eS6⟩ : ∃ z : St, z = u2 S5 0 b ((S5 0 b) - x) := ⟨_, rfl⟩
    refine g_last X (ws' := wM h cI cJ cZ th C N S6 Qk K P Y) 1 rfl (0 + b) (congrArg nI (show b = 0 + b by omega)) (by omega) (Nat.le_of_ble_eq_true rfl) dX7_gives_83 (by rw [eS6]; first | done | (rw [flu_0 _ _ (i := b) _ (by omega)]; rfl)) ?_
    refine g_lload X 0 dX7_gives_84 rfl ?_
    refine g_lret X hr hlk hQ dX7_gives_86 ?_
    show g_eq _ _ _ _
    try rw [eS6]
    try rw [eS5]
    try rw [eS4]
    try rw [ev2]
    exact ⟨rfl, rfl⟩
  refine g_lj_ne X (tgt := 17) (pc1 := 10) dX7_gives_9 rfl dX7_gives_10 (by decide) (fun h1 => ?_) (fun h1 => ?_)
  · --
    refine g_aload_n X 0 dX7_gives_17 rfl rfl ?_
    refine g_get X (C := RX7) (T := TX7) (N := 21) (v := .ref (h 1)) inlX7 0 rfl rfl 1 (Nat.le_of_ble_eq_true rfl) kF_X7_7 rfl dX7_gives_18 ?_
    refine g_bipush X (v := nI 24) dX7_gives_21 (by decide +kernel) ?_
    refine g_iload_n X 1 dX7_gives_23 rfl rfl ?_
    refine g_iadd X (v := nI (b + 24)) dX7_gives_24 ((nI_add _ _).trans (congrArg nI (by omega))) ?_
    refine g_lald X 1 rfl (24 + b) (congrArg nI (show b + 24 = 24 + b by omega)) (by omega) (Nat.le_of_ble_eq_true rfl) (v := S 2 b) (fl_2 _ _ (i := b) (by omega)) dX7_gives_25 ?_
    refine g_lload_n X 2 dX7_gives_26 rfl rfl ?_
    refine g_lmul X (v := (S 2 b) * x) dX7_gives_27 rfl ?_
    refine g_aload_n X 0 dX7_gives_28 rfl rfl ?_
    refine g_get X (C := RX7) (T := TX7) (N := 21) (v := .ref (h 1)) inlX7 0 rfl rfl 1 (Nat.le_of_ble_eq_true rfl) kF_X7_7 rfl dX7_gives_29 ?_
    refine g_iconst X (v := nI 0) dX7_gives_32 (by decide +kernel) ?_
    refine g_iload_n X 1 dX7_gives_33 rfl rfl ?_
    refine g_iadd X (v := nI b) dX7_gives_34 ((nI_add _ _).trans (congrArg nI (by omega))) ?_
    refine g_lald X 1 rfl (0 + b) (congrArg nI (show b = 0 + b by omega)) (by omega) (Nat.le_of_ble_eq_true rfl) (v := S 0 b) (fl_0 _ _ (i := b) (by omega)) dX7_gives_35 ?_
    refine g_ldiv X (v := ((S 2 b) * x) / (S 0 b)) dX7_gives_36 (by assumption) rfl ?_
    exact J3 _ (by rw [if_pos (c := ¬ (S 0 b) = (0 : Int64)) h1])
  · --
    refine g_lconst X (v := 0) dX7_gives_13 (by decide +kernel) ?_
    refine g_goto X (tgt := 37) dX7_gives_14 (by decide) ?_
    exact J3 _ (by rw [if_neg (c := ¬ (S 0 b) = (0 : Int64)) (fun z => z h1)])
theorem hV_X7_isDryNear : yX7_isDryNear.cls = RX7 ∧ yX7_isDryNear.cls ≠ "java/lang/invoke/MethodHandle" ∧ yX7_isDryNear.cls ≠ "java/lang/invoke/VarHandle" ∧ (parseMethodDescriptor yX7_isDryNear.desc).map (fun d => d.parameters.length) = some 1 := by decide +kernel
abbrev rm_X7_isDryNear : Room := { frames := 3, cells := 0, slots := 0, locals := 63 }
set_option maxRecDepth 100000 in
set_option maxHeartbeats 4000000 in
theorem m_X7_isDryNear (l : Launch) (D : va_G) (cI cJ cZ : ClassId) (h : Nat → Nat) (th : Int32) (C : Cf) (N : Nat → Nat) (S : St) (Qk K P : Nat → Int64) (Y : St) (b : Nat) (hC : Cok C N) (hb : b < 12) : g_Ct l D cI cJ cZ yX7_isDryNear cX7_isDryNear 4 (some .boolean) rm_X7_isDryNear 0 0 [.ref (h 0), .int (nI b)] (wM h cI cJ cZ th C N S Qk K P Y) (g_eq (some (.int (bI (anyB (N 2) (dryB C S b))))) (wM h cI cJ cZ th C N S Qk K P Y)) := by
  refine g_body RX7 [(0, .ref (h 0)), (1, .int (nI b))] kH_X7 rfl (Nat.le_of_ble_eq_true rfl) rfl ?_
  intro p e s m args below meth c A X hr hlk hmn Q hQ
  have hN0 := hC.n0
  have hN1 := hC.n1
  have hN2 := hC.n2
  refine g_iconst X (v := nI 0) dX7_isDryNear_0 (by decide +kernel) ?_
  refine g_istore_n X [(2, .int (nI 0)), (0, .ref (h 0)), (1, .int (nI b))] dX7_isDryNear_1 rfl (Nat.le_of_ble_eq_true rfl) rfl ?_
  refine g_iconst X (v := nI 0) dX7_isDryNear_2 (by decide +kernel) ?_
  refine g_istore_n X [(3, .int (nI 0)), (2, .int (nI 0)), (0, .ref (h 0)), (1, .int (nI b))] dX7_isDryNear_3 rfl (Nat.le_of_ble_eq_true rfl) rfl ?_
  have L1 : ∀ (n3 i2 : Nat) (a4 : Bool), i2 + n3 = (N 2) → a4 = anyB i2 (dryB C S b) → g_G p l e rm_X7_isDryNear s m args below meth c D A 4 0 0 Q (wM h cI cJ cZ th C N S Qk K P Y) [(0, .ref (h 0)), (1, .int (nI b)), (2, .int (bI a4)), (3, .int (nI i2))] 4 [] := by
    intro n3
    induction n3 with
    | zero =>
      intro i2 a4 hi5 ea4
      obtain rfl : i2 = (N 2) := by omega
      refine g_iload_n X 3 dX7_isDryNear_4 rfl rfl ?_
      refine g_aload_n X 0 dX7_isDryNear_5 rfl rfl ?_
      refine g_get X (C := RX7) (T := TX7) (N := 21) (v := .int (nI (N 2))) inlX7 0 rfl rfl 14 (Nat.le_of_ble_eq_true rfl) kF_X7_75 rfl dX7_isDryNear_6 ?_
      refine g_icN_ge X (a := (N 2)) (b := N 2) (tgt := 65) (by omega) (by omega) dX7_isDryNear_9 (by decide) (fun h6 => ?_) (fun h6 => absurd h6 (by omega))
      refine g_iload_n X 2 dX7_isDryNear_65 rfl rfl ?_
      refine g_zret X hr hlk hQ (bI_nar _) dX7_isDryNear_66 ?_
      show g_eq _ _ _ _
      try rw [ea4]
      exact ⟨rfl, rfl⟩
    | succ n3 ihL1 =>
      intro i2 a4 hi5 ea4
      have hlti2 : i2 < (N 2) := by omega
      have hs := (hC.sp hlti2).2
      refine g_iload_n X 3 dX7_isDryNear_4 rfl rfl ?_
      refine g_aload_n X 0 dX7_isDryNear_5 rfl rfl ?_
      refine g_get X (C := RX7) (T := TX7) (N := 21) (v := .int (nI (N 2))) inlX7 0 rfl rfl 14 (Nat.le_of_ble_eq_true rfl) kF_X7_75 rfl dX7_isDryNear_6 ?_
      refine g_icN_ge X (a := i2) (b := N 2) (tgt := 65) (by omega) (by omega) dX7_isDryNear_9 (by decide) (fun h7 => absurd h7 (by omega)) (fun h7 => ?_)
      refine g_iload_n X 2 dX7_isDryNear_12 rfl rfl ?_
      have J12 : ∀ (v11 : Bool), v11 = (if a4 = true then true else if (nrB b (spN C i2)) = false then false else if ((C 9 i2).toInt64) ≤ (S 0 (spN C i2)) then false else true) → g_G p l e rm_X7_isDryNear s m args below meth c D A 4 0 0 Q (wM h cI cJ cZ th C N S Qk K P Y) [(0, .ref (h 0)), (1, .int (nI b)), (3, .int (nI i2))] 58 [.int (bI v11)] := by
        intro v11 ev11
        refine g_istore_n X [(2, .int (bI v11)), (0, .ref (h 0)), (1, .int (nI b)), (3, .int (nI i2))] dX7_isDryNear_58 rfl (Nat.le_of_ble_eq_true rfl) rfl ?_
        refine g_iinc X [(3, .int (nI (i2 + 1))), (2, .int (bI v11)), (0, .ref (h 0)), (1, .int (nI b))] (q := 3) (v := nI (i2 + 1)) dX7_isDryNear_59 rfl ((congrArg (fun z => nI (i2) + z) (show Int32.ofInt 1 = nI 1 by decide +kernel)).trans ((nI_add _ _).trans (congrArg nI (by omega)))) (Nat.le_of_ble_eq_true rfl) rfl ?_
        refine g_goto X (tgt := 4) dX7_isDryNear_62 (by decide) ?_
        refine g_lv _ [2, 3, 1, 0] rfl ?_
        exact ihL1 (i2 + 1) _ (by omega) (by (try rw [ev11]); (try rw [ea4]); first | done | (exact any_m C S hb hs))
      refine g_bI_ne X (tgt := 53) dX7_isDryNear_13 (by decide) (fun h8 => ?_) (fun h8 => ?_)
      · --
        refine g_iconst X (v := nI 1) dX7_isDryNear_53 (by decide +kernel) ?_
        refine g_goto X (tgt := 58) dX7_isDryNear_54 (by decide) ?_
        refine g_lv _ [0, 1, 3] rfl ?_
        exact J12 _ (by rw [if_pos (c := a4 = true) h8])
      · --
        refine g_iload_n X 1 dX7_isDryNear_16 rfl rfl ?_
        refine g_aload_n X 0 dX7_isDryNear_17 rfl rfl ?_
        refine g_get X (C := RX7) (T := TX7) (N := 21) (v := .ref (h 11)) inlX7 0 rfl rfl 15 (Nat.le_of_ble_eq_true rfl) kF_X7_42 rfl dX7_isDryNear_18 ?_
        refine g_iload_n X 3 dX7_isDryNear_21 rfl rfl ?_
        refine g_iald X 11 rfl (i2) rfl (by omega) (Nat.le_of_ble_eq_true rfl) (v := nI (spN C i2)) (hC.sp (by omega)).1 dX7_isDryNear_22 ?_
        refine g_callS X (As := [.int (nI b), .int (nI (spN C i2))]) (rest := []) (m_X7_isNear l D cI cJ cZ b (spN C i2) hb hs) kM_X7_115 kT_yX7_isNear kZ_RX7 kC_yX7_isNear hV_X7_isNear rfl rfl rfl ⟨Nat.le_of_ble_eq_true rfl, Nat.le_of_ble_eq_true rfl⟩ ⟨Nat.le_of_ble_eq_true rfl, Nat.le_of_ble_eq_true rfl⟩ (Nat.le_of_ble_eq_true rfl) dX7_isDryNear_23 rfl [] rfl rfl (g_kk1 (w2 := wM h cI cJ cZ th C N S Qk K P Y) ⟨[], [0, 1, 2, 3, 4, 5, 6, 7, 8, 9, 10, 11, 12, 13, 14, 15, 16], [0, 1, 2, 3, 4, 5, 6, 7, 8, 9, 10, 11, 12, 13, 14, 15, 16], ([0, 1, 2, 3, 4, 5, 6, 7, 8, 9, 10, 11, 12, 13, 14, 15, 16].filterMap fun i => (wM h cI cJ cZ th C N S Qk K P Y)[i]?), rfl, rfl, rfl, rfl, by decide, rfl, rfl⟩ ?_)
        refine g_bI_eq X (tgt := 57) dX7_isDryNear_26 (by decide) (fun h9 => ?_) (fun h9 => ?_)
        · --
          refine g_iconst X (v := nI 0) dX7_isDryNear_57 (by decide +kernel) ?_
          refine g_lv _ [0, 1, 3] rfl ?_
          exact J12 _ (by rw [if_neg (c := a4 = true) (by rw [h8]; decide), if_pos (c := (nrB b (spN C i2)) = false) h9])
        · --
          refine g_aload_n X 0 dX7_isDryNear_29 rfl rfl ?_
          refine g_get X (C := RX7) (T := TX7) (N := 21) (v := .ref (h 1)) inlX7 0 rfl rfl 1 (Nat.le_of_ble_eq_true rfl) kF_X7_7 rfl dX7_isDryNear_30 ?_
          refine g_iconst X (v := nI 0) dX7_isDryNear_33 (by decide +kernel) ?_
          refine g_aload_n X 0 dX7_isDryNear_34 rfl rfl ?_
          refine g_get X (C := RX7) (T := TX7) (N := 21) (v := .ref (h 11)) inlX7 0 rfl rfl 15 (Nat.le_of_ble_eq_true rfl) kF_X7_42 rfl dX7_isDryNear_35 ?_
          refine g_iload_n X 3 dX7_isDryNear_38 rfl rfl ?_
          refine g_iald X 11 rfl (i2) rfl (by omega) (Nat.le_of_ble_eq_true rfl) (v := nI (spN C i2)) (hC.sp (by omega)).1 dX7_isDryNear_39 ?_
          refine g_iadd X (v := nI (spN C i2)) dX7_isDryNear_40 ((nI_add _ _).trans (congrArg nI (by omega))) ?_
          refine g_lald X 1 rfl (0 + (spN C i2)) (congrArg nI (show spN C i2 = 0 + (spN C i2) by omega)) (by omega) (Nat.le_of_ble_eq_true rfl) (v := S 0 (spN C i2)) (fl_0 _ _ (i := spN C i2) (by omega)) dX7_isDryNear_41 ?_
          refine g_aload_n X 0 dX7_isDryNear_42 rfl rfl ?_
          refine g_get X (C := RX7) (T := TX7) (N := 21) (v := .ref (h 13)) inlX7 0 rfl rfl 17 (Nat.le_of_ble_eq_true rfl) kF_X7_48 rfl dX7_isDryNear_43 ?_
          refine g_iload_n X 3 dX7_isDryNear_46 rfl rfl ?_
          refine g_iald X 13 rfl (i2) rfl (by omega) (Nat.le_of_ble_eq_true rfl) (v := C 9 i2) rfl dX7_isDryNear_47 ?_
          refine g_i2l X (v := (C 9 i2).toInt64) dX7_isDryNear_48 rfl ?_
          refine g_lj_ge X (tgt := 57) (pc1 := 50) dX7_isDryNear_49 rfl dX7_isDryNear_50 (by decide) (fun h10 => ?_) (fun h10 => ?_)
          · --
            refine g_iconst X (v := nI 0) dX7_isDryNear_57 (by decide +kernel) ?_
            refine g_lv _ [0, 1, 3] rfl ?_
            exact J12 _ (by rw [if_neg (c := a4 = true) (by rw [h8]; decide), if_neg (c := (nrB b (spN C i2)) = false) (by rw [h9]; decide), if_pos (c := ((C 9 i2).toInt64) ≤ (S 0 (spN C i2))) h10])
          · --
            refine g_iconst X (v := nI 1) dX7_isDryNear_53 (by decide +kernel) ?_
            refine g_goto X (tgt := 58) dX7_isDryNear_54 (by decide) ?_
            refine g_lv _ [0, 1, 3] rfl ?_
            exact J12 _ (by rw [if_neg (c := a4 = true) (by rw [h8]; decide), if_neg (c := (nrB b (spN C i2)) = false) (by rw [h9]; decide), if_neg (c := ((C 9 i2).toInt64) ≤ (S 0 (spN C i2))) h10])
  refine g_lv _ [2, 3, 1, 0] rfl ?_
  exact L1 ((N 2)) 0 false (by omega) (by first | rfl | (first | done | rfl))
theorem hV_X7_shuts : yX7_shuts.cls = RX7 ∧ yX7_shuts.cls ≠ "java/lang/invoke/MethodHandle" ∧ yX7_shuts.cls ≠ "java/lang/invoke/VarHandle" ∧ (parseMethodDescriptor yX7_shuts.desc).map (fun d => d.parameters.length) = some 0 := by decide +kernel
abbrev rm_X7_shuts : Room := { frames := 4, cells := 0, slots := 0, locals := 86 }
set_option maxRecDepth 100000 in
set_option maxHeartbeats 4000000 in
theorem m_X7_shuts (l : Launch) (D : va_G) (cI cJ cZ : ClassId) (h : Nat → Nat) (th : Int32) (C : Cf) (N : Nat → Nat) (S : St) (Qk K P : Nat → Int64) (Y : St) (hC : Cok C N) : g_Ct l D cI cJ cZ yX7_shuts cX7_shuts 3 none rm_X7_shuts 0 0 [.ref (h 0)] (wM h cI cJ cZ th C N S Qk K P Y) (g_eq none (wM h cI cJ cZ th C N (itr (shW C N) S (N 0)) Qk K P Y)) := by
  refine g_body RX7 [(0, .ref (h 0))] kH_X7 rfl (Nat.le_of_ble_eq_true rfl) rfl ?_
  intro p e s m args below meth c A X hr hlk hmn Q hQ
  have hN0 := hC.n0
  have hN1 := hC.n1
  have hN2 := hC.n2
  refine g_iconst X (v := nI 0) dX7_shuts_0 (by decide +kernel) ?_
  refine g_istore_n X [(1, .int (nI 0)), (0, .ref (h 0))] dX7_shuts_1 rfl (Nat.le_of_ble_eq_true rfl) rfl ?_
  have L1 : ∀ (n3 i2 : Nat) (S4 : St), i2 + n3 = (N 0) → S4 = itr (shW C N) S i2 → g_G p l e rm_X7_shuts s m args below meth c D A 3 0 0 Q (wM h cI cJ cZ th C N S4 Qk K P Y) [(0, .ref (h 0)), (1, .int (nI i2))] 2 [] := by
    intro n3
    induction n3 with
    | zero =>
      intro i2 S4 hi5 eS4
      obtain rfl : i2 = (N 0) := by omega
      refine g_iload_n X 1 dX7_shuts_2 rfl rfl ?_
      refine g_aload_n X 0 dX7_shuts_3 rfl rfl ?_
      refine g_get X (C := RX7) (T := TX7) (N := 21) (v := .int (nI (N 0))) inlX7 0 rfl rfl 6 (Nat.le_of_ble_eq_true rfl) kF_X7_72 rfl dX7_shuts_4 ?_
      refine g_icN_ge X (a := (N 0)) (b := N 0) (tgt := 86) (by omega) (by omega) dX7_shuts_7 (by decide) (fun h6 => ?_) (fun h6 => absurd h6 (by omega))
      refine g_vret X hr hlk hQ dX7_shuts_86 ?_
      show g_eq _ _ _ _
      try rw [eS4]
      exact ⟨rfl, rfl⟩
    | succ n3 ihL1 =>
      intro i2 S4 hi5 eS4
      have hlti2 : i2 < (N 0) := by omega
      have hpl := (hC.pl hlti2).2
      have hlig := lig_3 S4 (plN C i2)
      refine g_iload_n X 1 dX7_shuts_2 rfl rfl ?_
      refine g_aload_n X 0 dX7_shuts_3 rfl rfl ?_
      refine g_get X (C := RX7) (T := TX7) (N := 21) (v := .int (nI (N 0))) inlX7 0 rfl rfl 6 (Nat.le_of_ble_eq_true rfl) kF_X7_72 rfl dX7_shuts_4 ?_
      refine g_icN_ge X (a := i2) (b := N 0) (tgt := 86) (by omega) (by omega) dX7_shuts_7 (by decide) (fun h7 => absurd h7 (by omega)) (fun h7 => ?_)
      refine g_aload_n X 0 dX7_shuts_10 rfl rfl ?_
      refine g_get X (C := RX7) (T := TX7) (N := 21) (v := .ref (h 6)) inlX7 0 rfl rfl 8 (Nat.le_of_ble_eq_true rfl) kF_X7_26 rfl dX7_shuts_11 ?_
      refine g_iload_n X 1 dX7_shuts_14 rfl rfl ?_
      refine g_zald X 6 rfl (i2) rfl (by omega) (Nat.le_of_ble_eq_true rfl) (v := C 3 i2) rfl dX7_shuts_15 ?_
      have J11 : ∀ (v10 : Bool), v10 = (if (C 3 i2) = 0 then (anyB (N 2) (dryB C S4 (plN C i2))) else if ¬ lig S4 (plN C i2) = 2 then false else true) → g_G p l e rm_X7_shuts s m args below meth c D A 3 0 0 Q (wM h cI cJ cZ th C N S4 Qk K P Y) [(0, .ref (h 0)), (1, .int (nI i2))] 51 [.int (bI v10)] := by
        intro v10 ev10
        replace ev10 := ev10.trans (mst_m C N _ _)
        refine g_istore_n X [(2, .int (bI v10)), (0, .ref (h 0)), (1, .int (nI i2))] dX7_shuts_51 rfl (Nat.le_of_ble_eq_true rfl) rfl ?_
        refine g_aload_n X 1 dX7_shuts_52 rfl rfl ?_
        refine g_get X (C := RX7) (T := TX7) (N := 21) (v := .ref (h 1)) inlX7 0 rfl rfl 1 (Nat.le_of_ble_eq_true rfl) kF_X7_7 rfl dX7_shuts_53 ?_
        refine g_bipush X (v := nI 68) dX7_shuts_56 (by decide +kernel) ?_
        refine g_iload_n X 2 dX7_shuts_58 rfl rfl ?_
        refine g_iadd X (v := nI (i2 + 68)) dX7_shuts_59 ((nI_add _ _).trans (congrArg nI (by omega))) ?_
        refine g_iload_n X 0 dX7_shuts_60 rfl rfl ?_
        have J14 : ∀ (v13 : Int64), v13 = (if v10 = false then (0 : Int64) else (1 : Int64)) → g_G p l e rm_X7_shuts s m args below meth c D A 3 0 0 Q (wM h cI cJ cZ th C N S4 Qk K P Y) [(0, .ref (h 0)), (1, .int (nI i2))] 69 [.long v13, .int (nI (i2 + 68)), .ref (h 1)] := by
          intro v13 ev13
          replace ev13 := ev13.trans (bL_m _)
          obtain ⟨S15, eS15⟩ : ∃ z : St, z = u2 S4 6 i2 v13 := ⟨_, rfl⟩
          refine g_last X (ws' := wM h cI cJ cZ th C N S15 Qk K P Y) 1 rfl (68 + i2) (congrArg nI (show i2 + 68 = 68 + i2 by omega)) (by omega) (Nat.le_of_ble_eq_true rfl) dX7_shuts_69 (by rw [eS15]; first | done | (rw [flu_6 _ _ (i := i2) _ (by omega)]; rfl)) ?_
          refine g_aload_n X 0 dX7_shuts_70 rfl rfl ?_
          refine g_get X (C := RX7) (T := TX7) (N := 21) (v := .ref (h 1)) inlX7 0 rfl rfl 1 (Nat.le_of_ble_eq_true rfl) kF_X7_7 rfl dX7_shuts_71 ?_
          refine g_bipush X (v := nI 58) dX7_shuts_74 (by decide +kernel) ?_
          refine g_iload_n X 1 dX7_shuts_76 rfl rfl ?_
          refine g_iadd X (v := nI (i2 + 58)) dX7_shuts_77 ((nI_add _ _).trans (congrArg nI (by omega))) ?_
          refine g_lconst X (v := 0) dX7_shuts_78 (by decide +kernel) ?_
          obtain ⟨S16, eS16⟩ : ∃ z : St, z = u2 S15 5 i2 (0 : Int64) := ⟨_, rfl⟩
          refine g_last X (ws' := wM h cI cJ cZ th C N S16 Qk K P Y) 1 rfl (58 + i2) (congrArg nI (show i2 + 58 = 58 + i2 by omega)) (by omega) (Nat.le_of_ble_eq_true rfl) dX7_shuts_79 (by rw [eS16]; first | done | (rw [flu_5 _ _ (i := i2) _ (by omega)]; rfl)) ?_
          refine g_iinc X [(1, .int (nI (i2 + 1))), (0, .ref (h 0))] (q := 1) (v := nI (i2 + 1)) dX7_shuts_80 rfl ((congrArg (fun z => nI (i2) + z) (show Int32.ofInt 1 = nI 1 by decide +kernel)).trans ((nI_add _ _).trans (congrArg nI (by omega)))) (Nat.le_of_ble_eq_true rfl) rfl ?_
          refine g_goto X (tgt := 2) dX7_shuts_83 (by decide) ?_
          refine g_lv _ [1, 0] rfl ?_
          exact ihL1 (i2 + 1) _ (by omega) (by (try rw [eS16]); (try rw [eS15]); (try rw [ev13]); (try rw [ev10]); (try rw [eS4]); first | done | (rw [u2_sort _ _ _ _ _ (show 5 < 6 by decide)]; rfl))
        refine g_bI_eq X (tgt := 68) dX7_shuts_61 (by decide) (fun h12 => ?_) (fun h12 => ?_)
        · --
          refine g_lconst X (v := 0) dX7_shuts_68 (by decide +kernel) ?_
          refine g_lv _ [1, 2] rfl ?_
          exact J14 _ (by rw [if_pos (c := v10 = false) h12])
        · --
          refine g_lconst X (v := 1) dX7_shuts_64 (by decide +kernel) ?_
          refine g_goto X (tgt := 69) dX7_shuts_65 (by decide) ?_
          refine g_lv _ [1, 2] rfl ?_
          exact J14 _ (by rw [if_neg (c := v10 = false) (by rw [h12]; decide)])
      refine g_if_eq X (tgt := 41) dX7_shuts_16 (by decide) (fun h8 => ?_) (fun h8 => ?_)
      · --
        refine g_aload_n X 0 dX7_shuts_41 rfl rfl ?_
        refine g_aload_n X 0 dX7_shuts_42 rfl rfl ?_
        refine g_get X (C := RX7) (T := TX7) (N := 21) (v := .ref (h 5)) inlX7 0 rfl rfl 7 (Nat.le_of_ble_eq_true rfl) kF_X7_23 rfl dX7_shuts_43 ?_
        refine g_iload_n X 1 dX7_shuts_46 rfl rfl ?_
        refine g_iald X 5 rfl (i2) rfl (by omega) (Nat.le_of_ble_eq_true rfl) (v := nI (plN C i2)) (hC.pl (by omega)).1 dX7_shuts_47 ?_
        refine g_callV X (As := [.int (nI (plN C i2))]) (rest := []) (m_X7_isDryNear l D cI cJ cZ h th C N S4 Qk K P Y (plN C i2) hC hpl) kM_X7_122 kI_yX7_isDryNear kS_yX7_isDryNear kZ_RX7 kC_yX7_isDryNear hV_X7_isDryNear rfl rfl rfl 0 rfl (ci := 7) rfl ⟨Nat.le_of_ble_eq_true rfl, Nat.le_of_ble_eq_true rfl⟩ ⟨Nat.le_of_ble_eq_true rfl, Nat.le_of_ble_eq_true rfl⟩ (Nat.le_of_ble_eq_true rfl) dX7_shuts_48 rfl [0, 1, 2, 3, 4, 5, 6, 7, 8, 9, 10, 11, 12, 13, 14, 15, 16] rfl rfl (g_kk1 (w2 := wM h cI cJ cZ th C N S4 Qk K P Y) ⟨[0, 1, 2, 3, 4, 5, 6, 7, 8, 9, 10, 11, 12, 13, 14, 15, 16], [], [0, 1, 2, 3, 4, 5, 6, 7, 8, 9, 10, 11, 12, 13, 14, 15, 16], [], rfl, rfl, rfl, rfl, by decide, rfl, rfl⟩ ?_)
        exact J11 _ (by rw [if_pos (c := (C 3 i2) = 0) h8])
      · --
        refine g_aload_n X 0 dX7_shuts_19 rfl rfl ?_
        refine g_aload_n X 0 dX7_shuts_20 rfl rfl ?_
        refine g_get X (C := RX7) (T := TX7) (N := 21) (v := .ref (h 5)) inlX7 0 rfl rfl 7 (Nat.le_of_ble_eq_true rfl) kF_X7_23 rfl dX7_shuts_21 ?_
        refine g_iload_n X 1 dX7_shuts_24 rfl rfl ?_
        refine g_iald X 5 rfl (i2) rfl (by omega) (Nat.le_of_ble_eq_true rfl) (v := nI (plN C i2)) (hC.pl (by omega)).1 dX7_shuts_25 ?_
        refine g_callV X (As := [.int (nI (plN C i2))]) (rest := []) (m_X7_light l D cI cJ cZ h th C N S4 Qk K P Y (plN C i2) hpl) kM_X7_118 kI_yX7_light kS_yX7_light kZ_RX7 kC_yX7_light hV_X7_light rfl rfl rfl 0 rfl (ci := 7) rfl ⟨Nat.le_of_ble_eq_true rfl, Nat.le_of_ble_eq_true rfl⟩ ⟨Nat.le_of_ble_eq_true rfl, Nat.le_of_ble_eq_true rfl⟩ (Nat.le_of_ble_eq_true rfl) dX7_shuts_26 rfl [0, 1, 2, 3, 4, 5, 6, 7, 8, 9, 10, 11, 12, 13, 14, 15, 16] rfl rfl (g_kk1 (w2 := wM h cI cJ cZ th C N S4 Qk K P Y) ⟨[0, 1, 2, 3, 4, 5, 6, 7, 8, 9, 10, 11, 12, 13, 14, 15, 16], [], [0, 1, 2, 3, 4, 5, 6, 7, 8, 9, 10, 11, 12, 13, 14, 15, 16], [], rfl, rfl, rfl, rfl, by decide, rfl, rfl⟩ ?_)
        refine g_iconst X (v := nI 2) dX7_shuts_29 (by decide +kernel) ?_
        refine g_icN_ne X (a := lig S4 (plN C i2)) (b := 2) (tgt := 37) (by omega) (by omega) dX7_shuts_30 (by decide) (fun h9 => ?_) (fun h9 => ?_)
        · --
          refine g_iconst X (v := nI 0) dX7_shuts_37 (by decide +kernel) ?_
          refine g_goto X (tgt := 51) dX7_shuts_38 (by decide) ?_
          exact J11 _ (by rw [if_neg (c := (C 3 i2) = 0) h8, if_pos (c := ¬ lig S4 (plN C i2) = 2) h9])
        · --
          refine g_iconst X (v := nI 1) dX7_shuts_33 (by decide +kernel) ?_
          refine g_goto X (tgt := 51) dX7_shuts_34 (by decide) ?_
          exact J11 _ (by rw [if_neg (c := (C 3 i2) = 0) h8, if_neg (c := ¬ lig S4 (plN C i2) = 2) (fun z => z h9)])
  refine g_lv _ [1, 0] rfl ?_
  exact L1 ((N 0)) 0 _ (by omega) (by first | rfl | (first | done | rfl))
