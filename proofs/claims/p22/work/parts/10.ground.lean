/-! the ground -/
def deg (S : St) (b : Nat) : Int64 := S 1 b / (S 0 b + 20000)
/-- no block has less than no water, nor more than 2^40 -/
def Wok (S : St) : Prop := ∀ b, b < 12 → 0 ≤ (S 0 b).toInt ∧ (S 0 b).toInt ≤ 1099511627776
theorem ne_le0 {x : Int64} (h : ¬ x ≤ 0) : ¬ x = 0 := fun e => h (by rw [e]; exact Int64.le_refl 0)
theorem Wok.ne {S : St} (h : Wok S) {b : Nat} (hb : b < 12) : ¬ S 0 b + 20000 ≤ 0 := by
  intro e
  have h1 := h b hb
  have h2 := Int64.le_iff_toInt_le.mp e
  rw [Int64.toInt_add] at h2
  have h3 : (20000 : Int64).toInt = 20000 := by decide
  have h4 : (0 : Int64).toInt = 0 := by decide
  rw [h3, h4, Int.bmod_eq_of_le (by omega) (by omega)] at h2
  omega
theorem Wok.pos {S : St} (h : Wok S) {b : Nat} (hb : b < 12) (hn : ¬ S 0 b ≤ 0) : ¬ S 0 b = 0 := fun e => hn (by rw [e]; exact Int64.le_refl 0)
def lig (S : St) (b : Nat) : Nat := if 1000 ≤ S 3 b then (if 2000 ≤ S 3 b then 2 else 1) else 0
theorem lig_3 (S : St) (b : Nat) : lig S b < 3 := by unfold lig; (repeat' split) <;> omega
def gone (S : St) (b : Nat) (m : Int64) : Int64 := if S 0 b ≤ 0 then 0 else S 2 b * m / S 0 b
def giveS (S : St) (b : Nat) (m : Int64) : St := u2 (u2 (u2 S 1 b (S 1 b - m * deg S b)) 2 b (S 2 b - gone S b m)) 0 b (S 0 b - m)
def takeS (S : St) (b : Nat) (m d : Int64) : St := u2 (u2 S 0 b (S 0 b + m)) 1 b (S 1 b + m * d)
def warmS (S : St) (b : Nat) : St := if 300 ≤ deg S b then S else u2 S 1 b (S 1 b + 50 * (300 - deg S b))
def fillS (S : St) (b : Nat) (w : Nat) (d : Int64) : St := u2 (u2 S 0 b (lN w)) 1 b (d * lN (w + 20000))

theorem hV_X1_degrees : yX1_degrees.cls = RX1 ∧ yX1_degrees.cls ≠ "java/lang/invoke/MethodHandle" ∧ yX1_degrees.cls ≠ "java/lang/invoke/VarHandle" ∧ (parseMethodDescriptor yX1_degrees.desc).map (fun d => d.parameters.length) = some 1 := by decide +kernel
abbrev rm_X1_degrees : Room := { frames := 0, cells := 0, slots := 0, locals := 0 }
set_option maxRecDepth 100000 in
set_option maxHeartbeats 4000000 in
theorem m_X1_degrees (l : Launch) (D : va_G) (cI cJ cZ : ClassId) (g : Nat → Nat) (C : Cf) (S Z : St) (b : Nat) (hb : b < 12) (hne : ¬ S 0 b + 20000 ≤ 0) : g_Ct l D cI cJ cZ yX1_degrees cX1_degrees 4 (some .long) rm_X1_degrees 0 0 [.ref (g 0), .int (nI b)] (wG g cI cJ C S Z) (g_eq (some (.long (deg S b))) (wG g cI cJ C S Z)) := by
  refine g_body RX1 [(0, .ref (g 0)), (1, .int (nI b))] kH_X1 rfl (Nat.le_of_ble_eq_true rfl) rfl ?_
  intro p e s m args below meth c A X hr hlk hmn Q hQ
  refine g_aload_n X 0 dX1_degrees_0 rfl rfl ?_
  refine g_get X (C := RX1) (T := TX1) (N := 9) (v := .ref (g 1)) inlX1 0 rfl rfl 0 (Nat.le_of_ble_eq_true rfl) kF_X1_9 rfl dX1_degrees_1 ?_
  refine g_iload_n X 1 dX1_degrees_4 rfl rfl ?_
  refine g_lald X 1 rfl (b) rfl (by omega) (Nat.le_of_ble_eq_true rfl) (v := S 0 b) rfl dX1_degrees_5 ?_
  refine g_ldc2 X kL_X1_58 dX1_degrees_6 ?_
  refine g_ladd X (v := (S 0 b) + (20000 : Int64)) dX1_degrees_9 rfl ?_
  refine g_lstore_n X [(2, .long ((S 0 b) + (20000 : Int64))), (0, .ref (g 0)), (1, .int (nI b))] dX1_degrees_10 rfl (Nat.le_of_ble_eq_true rfl) rfl ?_
  refine g_lload_n X 0 dX1_degrees_11 rfl rfl ?_
  refine g_lconst X (v := 0) dX1_degrees_12 (by decide +kernel) ?_
  refine g_lj_le X (tgt := 28) (pc1 := 14) dX1_degrees_13 rfl dX1_degrees_14 (by decide) (fun h1 => absurd h1 hne) (fun h1 => ?_)
  refine g_aload_n X 1 dX1_degrees_17 rfl rfl ?_
  refine g_get X (C := RX1) (T := TX1) (N := 9) (v := .ref (g 2)) inlX1 0 rfl rfl 1 (Nat.le_of_ble_eq_true rfl) kF_X1_15 rfl dX1_degrees_18 ?_
  refine g_iload_n X 2 dX1_degrees_21 rfl rfl ?_
  refine g_lald X 2 rfl (b) rfl (by omega) (Nat.le_of_ble_eq_true rfl) (v := S 1 b) rfl dX1_degrees_22 ?_
  refine g_lload_n X 0 dX1_degrees_23 rfl rfl ?_
  refine g_ldiv X (v := (S 1 b) / ((S 0 b) + (20000 : Int64))) dX1_degrees_24 (ne_le0 hne) rfl ?_
  refine g_goto X (tgt := 29) dX1_degrees_25 (by decide) ?_
  refine g_lret X hr hlk hQ dX1_degrees_29 ?_
  show g_eq _ _ _ _
  exact ⟨rfl, rfl⟩
theorem hV_X1_light : yX1_light.cls = RX1 ∧ yX1_light.cls ≠ "java/lang/invoke/MethodHandle" ∧ yX1_light.cls ≠ "java/lang/invoke/VarHandle" ∧ (parseMethodDescriptor yX1_light.desc).map (fun d => d.parameters.length) = some 1 := by decide +kernel
abbrev rm_X1_light : Room := { frames := 0, cells := 0, slots := 0, locals := 0 }
set_option maxRecDepth 100000 in
set_option maxHeartbeats 4000000 in
theorem m_X1_light (l : Launch) (D : va_G) (cI cJ cZ : ClassId) (g : Nat → Nat) (C : Cf) (S Z : St) (b : Nat) (hb : b < 12) : g_Ct l D cI cJ cZ yX1_light cX1_light 2 (some .int) rm_X1_light 0 0 [.ref (g 0), .int (nI b)] (wG g cI cJ C S Z) (g_eq (some (.int (nI (lig S b)))) (wG g cI cJ C S Z)) := by
  refine g_body RX1 [(0, .ref (g 0)), (1, .int (nI b))] kH_X1 rfl (Nat.le_of_ble_eq_true rfl) rfl ?_
  intro p e s m args below meth c A X hr hlk hmn Q hQ
  refine g_aload_n X 0 dX1_light_0 rfl rfl ?_
  refine g_get X (C := RX1) (T := TX1) (N := 9) (v := .ref (g 4)) inlX1 0 rfl rfl 3 (Nat.le_of_ble_eq_true rfl) kF_X1_21 rfl dX1_light_1 ?_
  refine g_iload_n X 1 dX1_light_4 rfl rfl ?_
  refine g_lald X 4 rfl (b) rfl (by omega) (Nat.le_of_ble_eq_true rfl) (v := S 3 b) rfl dX1_light_5 ?_
  refine g_ldc2 X kL_X1_60 dX1_light_6 ?_
  refine g_lj_ge X (tgt := 15) (pc1 := 10) dX1_light_9 rfl dX1_light_10 (by decide) (fun h1 => ?_) (fun h1 => ?_)
  · --
    refine g_aload_n X 0 dX1_light_15 rfl rfl ?_
    refine g_get X (C := RX1) (T := TX1) (N := 9) (v := .ref (g 4)) inlX1 0 rfl rfl 3 (Nat.le_of_ble_eq_true rfl) kF_X1_21 rfl dX1_light_16 ?_
    refine g_iload_n X 1 dX1_light_19 rfl rfl ?_
    refine g_lald X 4 rfl (b) rfl (by omega) (Nat.le_of_ble_eq_true rfl) (v := S 3 b) rfl dX1_light_20 ?_
    refine g_ldc2 X kL_X1_62 dX1_light_21 ?_
    have J4 : ∀ (v3 : Nat), v3 = (if (2000 : Int64) ≤ (S 3 b) then 2 else 1) → g_G p l e rm_X1_light s m args below meth c D A 2 0 0 Q (wG g cI cJ C S Z) [] 33 [.int (nI v3)] := by
      intro v3 ev3
      have bv3 : v3 < 2147483648 := by subst ev3; (repeat' split) <;> omega
      refine g_iret X hr hlk hQ dX1_light_33 ?_
      show g_eq _ _ _ _
      try rw [ev3]
      refine ⟨congrArg (fun z => some (Value.int (nI z))) ?_, rfl⟩
      unfold lig
      first | exact (if_pos (by assumption)).symm | exact (if_neg (by assumption)).symm
    refine g_lj_ge X (tgt := 32) (pc1 := 25) dX1_light_24 rfl dX1_light_25 (by decide) (fun h2 => ?_) (fun h2 => ?_)
    · --
      refine g_iconst X (v := nI 2) dX1_light_32 (by decide +kernel) ?_
      refine g_lv _ [] rfl ?_
      exact J4 _ (by rw [if_pos (c := (2000 : Int64) ≤ (S 3 b)) h2])
    · --
      refine g_iconst X (v := nI 1) dX1_light_28 (by decide +kernel) ?_
      refine g_goto X (tgt := 33) dX1_light_29 (by decide) ?_
      refine g_lv _ [] rfl ?_
      exact J4 _ (by rw [if_neg (c := (2000 : Int64) ≤ (S 3 b)) h2])
  · --
    refine g_iconst X (v := nI 0) dX1_light_13 (by decide +kernel) ?_
    refine g_iret X hr hlk hQ dX1_light_14 ?_
    show g_eq _ _ _ _
    refine ⟨congrArg (fun z => some (Value.int (nI z))) ?_, rfl⟩
    unfold lig
    first | exact (if_pos (by assumption)).symm | exact (if_neg (by assumption)).symm
theorem hV_X1_give : yX1_give.cls = RX1 ∧ yX1_give.cls ≠ "java/lang/invoke/MethodHandle" ∧ yX1_give.cls ≠ "java/lang/invoke/VarHandle" ∧ (parseMethodDescriptor yX1_give.desc).map (fun d => d.parameters.length) = some 2 := by decide +kernel
abbrev rm_X1_give : Room := { frames := 1, cells := 0, slots := 0, locals := 23 }
set_option maxRecDepth 100000 in
set_option maxHeartbeats 4000000 in
theorem m_X1_give (l : Launch) (D : va_G) (cI cJ cZ : ClassId) (g : Nat → Nat) (C : Cf) (S Z : St) (b : Nat) (x : Int64) (hb : b < 12) (hW : Wok S) : g_Ct l D cI cJ cZ yX1_give cX1_give 6 (some .long) rm_X1_give 0 0 [.ref (g 0), .int (nI b), .long x] (wG g cI cJ C S Z) (g_eq (some (.long (gone S b x))) (wG g cI cJ C (giveS S b x) Z)) := by
  refine g_body RX1 [(0, .ref (g 0)), (1, .int (nI b)), (2, .long x)] kH_X1 rfl (Nat.le_of_ble_eq_true rfl) rfl ?_
  intro p e s m args below meth c A X hr hlk hmn Q hQ
  refine g_aload_n X 0 dX1_give_0 rfl rfl ?_
  refine g_get X (C := RX1) (T := TX1) (N := 9) (v := .ref (g 1)) inlX1 0 rfl rfl 0 (Nat.le_of_ble_eq_true rfl) kF_X1_9 rfl dX1_give_1 ?_
  refine g_iload_n X 1 dX1_give_4 rfl rfl ?_
  refine g_lald X 1 rfl (b) rfl (by omega) (Nat.le_of_ble_eq_true rfl) (v := S 0 b) rfl dX1_give_5 ?_
  refine g_lconst X (v := 0) dX1_give_6 (by decide +kernel) ?_
  have J3 : ∀ (v2 : Int64), v2 = (if (S 0 b) ≤ (0 : Int64) then (0 : Int64) else ((S 2 b) * x) / (S 0 b)) → g_G p l e rm_X1_give s m args below meth c D A 6 0 0 Q (wG g cI cJ C S Z) [(0, .ref (g 0)), (1, .int (nI b)), (2, .long x)] 30 [.long v2] := by
    intro v2 ev2
    refine g_lstore X [(4, .long v2), (0, .ref (g 0)), (1, .int (nI b)), (2, .long x)] dX1_give_30 (Nat.le_of_ble_eq_true rfl) rfl ?_
    refine g_aload_n X 1 dX1_give_32 rfl rfl ?_
    refine g_get X (C := RX1) (T := TX1) (N := 9) (v := .ref (g 2)) inlX1 0 rfl rfl 1 (Nat.le_of_ble_eq_true rfl) kF_X1_15 rfl dX1_give_33 ?_
    refine g_iload_n X 2 dX1_give_36 rfl rfl ?_
    refine g_dup2_11 X dX1_give_37 rfl rfl ?_
    refine g_lald X 2 rfl (b) rfl (by omega) (Nat.le_of_ble_eq_true rfl) (v := S 1 b) rfl dX1_give_38 ?_
    refine g_lload_n X 3 dX1_give_39 rfl rfl ?_
    refine g_aload_n X 1 dX1_give_40 rfl rfl ?_
    refine g_iload_n X 2 dX1_give_41 rfl rfl ?_
    refine g_callV X (As := [.int (nI b)]) (rest := [.long x, .long (S 1 b), .int (nI b), .ref (g 2)]) (m_X1_degrees l D cI cJ cZ g C S Z b hb (hW.ne hb)) kM_X1_50 kI_yX1_degrees kS_yX1_degrees kZ_RX1 kC_yX1_degrees hV_X1_degrees rfl rfl rfl 0 rfl (ci := 1) rfl ⟨Nat.le_of_ble_eq_true rfl, Nat.le_of_ble_eq_true rfl⟩ ⟨Nat.le_of_ble_eq_true rfl, Nat.le_of_ble_eq_true rfl⟩ (Nat.le_of_ble_eq_true rfl) dX1_give_42 rfl [0, 1, 2, 3, 4, 5, 6, 7, 8, 9] rfl rfl (g_kk1 (w2 := wG g cI cJ C S Z) ⟨[0, 1, 2, 3, 4, 5, 6, 7, 8, 9], [], [0, 1, 2, 3, 4, 5, 6, 7, 8, 9], [], rfl, rfl, rfl, rfl, by decide, rfl, rfl⟩ ?_)
    refine g_lmul X (v := x * (deg S b)) dX1_give_45 rfl ?_
    refine g_lsub X (v := (S 1 b) - (x * (deg S b))) dX1_give_46 rfl ?_
    obtain ⟨S4, eS4⟩ : ∃ z : St, z = u2 S 1 b ((S 1 b) - (x * (deg S b))) := ⟨_, rfl⟩
    refine g_last X (ws' := wG g cI cJ C S4 Z) 2 rfl (b) rfl (by omega) (Nat.le_of_ble_eq_true rfl) dX1_give_47 (by rw [eS4]; first | done | (rfl)) ?_
    refine g_aload_n X 1 dX1_give_48 rfl rfl ?_
    refine g_get X (C := RX1) (T := TX1) (N := 9) (v := .ref (g 3)) inlX1 0 rfl rfl 2 (Nat.le_of_ble_eq_true rfl) kF_X1_18 rfl dX1_give_49 ?_
    refine g_iload_n X 2 dX1_give_52 rfl rfl ?_
    refine g_dup2_11 X dX1_give_53 rfl rfl ?_
    refine g_lald X 3 rfl (b) rfl (by omega) (Nat.le_of_ble_eq_true rfl) (v := S4 2 b) rfl dX1_give_54 ?_
    refine g_lload X 0 dX1_give_55 rfl ?_
    refine g_lsub X (v := (S4 2 b) - v2) dX1_give_57 rfl ?_
    obtain ⟨S5, eS5⟩ : ∃ z : St, z = u2 S4 2 b ((S4 2 b) - v2) := ⟨_, rfl⟩
    refine g_last X (ws' := wG g cI cJ C S5 Z) 3 rfl (b) rfl (by omega) (Nat.le_of_ble_eq_true rfl) dX1_give_58 (by rw [eS5]; first | done | (rfl)) ?_
    refine g_aload_n X 1 dX1_give_59 rfl rfl ?_
    refine g_get X (C := RX1) (T := TX1) (N := 9) (v := .ref (g 1)) inlX1 0 rfl rfl 0 (Nat.le_of_ble_eq_true rfl) kF_X1_9 rfl dX1_give_60 ?_
    refine g_iload_n X 2 dX1_give_63 rfl rfl ?_
    refine g_dup2_11 X dX1_give_64 rfl rfl ?_
    refine g_lald X 1 rfl (b) rfl (by omega) (Nat.le_of_ble_eq_true rfl) (v := S5 0 b) rfl dX1_give_65 ?_
    refine g_lload_n X 3 dX1_give_66 rfl rfl ?_
    refine g_lsub X (v := (S5 0 b) - x) dX1_give_67 rfl ?_
    obtain ⟨S6, eS6⟩ : ∃ z : St, z = u2 S5 0 b ((S5 0 b) - x) := ⟨_, rfl⟩
    refine g_last X (ws' := wG g cI cJ C S6 Z) 1 rfl (b) rfl (by omega) (Nat.le_of_ble_eq_true rfl) dX1_give_68 (by rw [eS6]; first | done | (rfl)) ?_
    refine g_lload X 0 dX1_give_69 rfl ?_
    refine g_lret X hr hlk hQ dX1_give_71 ?_
    show g_eq _ _ _ _
    try rw [eS6]
    try rw [eS5]
    try rw [eS4]
    try rw [ev2]
    exact ⟨rfl, rfl⟩
  refine g_lj_le X (tgt := 29) (pc1 := 8) dX1_give_7 rfl dX1_give_8 (by decide) (fun h1 => ?_) (fun h1 => ?_)
  · --
    refine g_lconst X (v := 0) dX1_give_29 (by decide +kernel) ?_
    exact J3 _ (by rw [if_pos (c := (S 0 b) ≤ (0 : Int64)) h1])
  · --
    refine g_aload_n X 0 dX1_give_11 rfl rfl ?_
    refine g_get X (C := RX1) (T := TX1) (N := 9) (v := .ref (g 3)) inlX1 0 rfl rfl 2 (Nat.le_of_ble_eq_true rfl) kF_X1_18 rfl dX1_give_12 ?_
    refine g_iload_n X 1 dX1_give_15 rfl rfl ?_
    refine g_lald X 3 rfl (b) rfl (by omega) (Nat.le_of_ble_eq_true rfl) (v := S 2 b) rfl dX1_give_16 ?_
    refine g_lload_n X 2 dX1_give_17 rfl rfl ?_
    refine g_lmul X (v := (S 2 b) * x) dX1_give_18 rfl ?_
    refine g_aload_n X 0 dX1_give_19 rfl rfl ?_
    refine g_get X (C := RX1) (T := TX1) (N := 9) (v := .ref (g 1)) inlX1 0 rfl rfl 0 (Nat.le_of_ble_eq_true rfl) kF_X1_9 rfl dX1_give_20 ?_
    refine g_iload_n X 1 dX1_give_23 rfl rfl ?_
    refine g_lald X 1 rfl (b) rfl (by omega) (Nat.le_of_ble_eq_true rfl) (v := S 0 b) rfl dX1_give_24 ?_
    refine g_ldiv X (v := ((S 2 b) * x) / (S 0 b)) dX1_give_25 (hW.pos hb h1) rfl ?_
    refine g_goto X (tgt := 30) dX1_give_26 (by decide) ?_
    exact J3 _ (by rw [if_neg (c := (S 0 b) ≤ (0 : Int64)) h1])
theorem hV_X1_take : yX1_take.cls = RX1 ∧ yX1_take.cls ≠ "java/lang/invoke/MethodHandle" ∧ yX1_take.cls ≠ "java/lang/invoke/VarHandle" ∧ (parseMethodDescriptor yX1_take.desc).map (fun d => d.parameters.length) = some 3 := by decide +kernel
abbrev rm_X1_take : Room := { frames := 0, cells := 0, slots := 0, locals := 0 }
set_option maxRecDepth 100000 in
set_option maxHeartbeats 4000000 in
theorem m_X1_take (l : Launch) (D : va_G) (cI cJ cZ : ClassId) (g : Nat → Nat) (C : Cf) (S Z : St) (b : Nat) (x d : Int64) (hb : b < 12) : g_Ct l D cI cJ cZ yX1_take cX1_take 6 none rm_X1_take 0 0 [.ref (g 0), .int (nI b), .long x, .long d] (wG g cI cJ C S Z) (g_eq none (wG g cI cJ C (takeS S b x d) Z)) := by
  refine g_body RX1 [(0, .ref (g 0)), (1, .int (nI b)), (2, .long x), (4, .long d)] kH_X1 rfl (Nat.le_of_ble_eq_true rfl) rfl ?_
  intro p e s m args below meth c A X hr hlk hmn Q hQ
  refine g_aload_n X 0 dX1_take_0 rfl rfl ?_
  refine g_get X (C := RX1) (T := TX1) (N := 9) (v := .ref (g 1)) inlX1 0 rfl rfl 0 (Nat.le_of_ble_eq_true rfl) kF_X1_9 rfl dX1_take_1 ?_
  refine g_iload_n X 1 dX1_take_4 rfl rfl ?_
  refine g_dup2_11 X dX1_take_5 rfl rfl ?_
  refine g_lald X 1 rfl (b) rfl (by omega) (Nat.le_of_ble_eq_true rfl) (v := S 0 b) rfl dX1_take_6 ?_
  refine g_lload_n X 2 dX1_take_7 rfl rfl ?_
  refine g_ladd X (v := (S 0 b) + x) dX1_take_8 rfl ?_
  obtain ⟨S1, eS1⟩ : ∃ z : St, z = u2 S 0 b ((S 0 b) + x) := ⟨_, rfl⟩
  refine g_last X (ws' := wG g cI cJ C S1 Z) 1 rfl (b) rfl (by omega) (Nat.le_of_ble_eq_true rfl) dX1_take_9 (by rw [eS1]; first | done | (rfl)) ?_
  refine g_aload_n X 0 dX1_take_10 rfl rfl ?_
  refine g_get X (C := RX1) (T := TX1) (N := 9) (v := .ref (g 2)) inlX1 0 rfl rfl 1 (Nat.le_of_ble_eq_true rfl) kF_X1_15 rfl dX1_take_11 ?_
  refine g_iload_n X 1 dX1_take_14 rfl rfl ?_
  refine g_dup2_11 X dX1_take_15 rfl rfl ?_
  refine g_lald X 2 rfl (b) rfl (by omega) (Nat.le_of_ble_eq_true rfl) (v := S1 1 b) rfl dX1_take_16 ?_
  refine g_lload_n X 2 dX1_take_17 rfl rfl ?_
  refine g_lload X 3 dX1_take_18 rfl ?_
  refine g_lmul X (v := x * d) dX1_take_20 rfl ?_
  refine g_ladd X (v := (S1 1 b) + (x * d)) dX1_take_21 rfl ?_
  obtain ⟨S2, eS2⟩ : ∃ z : St, z = u2 S1 1 b ((S1 1 b) + (x * d)) := ⟨_, rfl⟩
  refine g_last X (ws' := wG g cI cJ C S2 Z) 2 rfl (b) rfl (by omega) (Nat.le_of_ble_eq_true rfl) dX1_take_22 (by rw [eS2]; first | done | (rfl)) ?_
  refine g_vret X hr hlk hQ dX1_take_23 ?_
  show g_eq _ _ _ _
  try rw [eS2]
  try rw [eS1]
  exact ⟨rfl, rfl⟩
theorem hV_X1_warm : yX1_warm.cls = RX1 ∧ yX1_warm.cls ≠ "java/lang/invoke/MethodHandle" ∧ yX1_warm.cls ≠ "java/lang/invoke/VarHandle" ∧ (parseMethodDescriptor yX1_warm.desc).map (fun d => d.parameters.length) = some 1 := by decide +kernel
abbrev rm_X1_warm : Room := { frames := 1, cells := 0, slots := 0, locals := 23 }
set_option maxRecDepth 100000 in
set_option maxHeartbeats 4000000 in
theorem m_X1_warm (l : Launch) (D : va_G) (cI cJ cZ : ClassId) (g : Nat → Nat) (C : Cf) (S Z : St) (b : Nat) (hb : b < 12) (hW : Wok S) : g_Ct l D cI cJ cZ yX1_warm cX1_warm 4 none rm_X1_warm 0 0 [.ref (g 0), .int (nI b)] (wG g cI cJ C S Z) (g_eq none (wG g cI cJ C (warmS S b) Z)) := by
  refine g_body RX1 [(0, .ref (g 0)), (1, .int (nI b))] kH_X1 rfl (Nat.le_of_ble_eq_true rfl) rfl ?_
  intro p e s m args below meth c A X hr hlk hmn Q hQ
  refine g_aload_n X 0 dX1_warm_0 rfl rfl ?_
  refine g_iload_n X 1 dX1_warm_1 rfl rfl ?_
  refine g_callV X (As := [.int (nI b)]) (rest := []) (m_X1_degrees l D cI cJ cZ g C S Z b hb (hW.ne hb)) kM_X1_50 kI_yX1_degrees kS_yX1_degrees kZ_RX1 kC_yX1_degrees hV_X1_degrees rfl rfl rfl 0 rfl (ci := 1) rfl ⟨Nat.le_of_ble_eq_true rfl, Nat.le_of_ble_eq_true rfl⟩ ⟨Nat.le_of_ble_eq_true rfl, Nat.le_of_ble_eq_true rfl⟩ (Nat.le_of_ble_eq_true rfl) dX1_warm_2 rfl [0, 1, 2, 3, 4, 5, 6, 7, 8, 9] rfl rfl (g_kk1 (w2 := wG g cI cJ C S Z) ⟨[0, 1, 2, 3, 4, 5, 6, 7, 8, 9], [], [0, 1, 2, 3, 4, 5, 6, 7, 8, 9], [], rfl, rfl, rfl, rfl, by decide, rfl, rfl⟩ ?_)
  refine g_lstore_n X [(2, .long (deg S b)), (0, .ref (g 0)), (1, .int (nI b))] dX1_warm_5 rfl (Nat.le_of_ble_eq_true rfl) rfl ?_
  refine g_lload_n X 0 dX1_warm_6 rfl rfl ?_
  refine g_ldc2 X kL_X1_78 dX1_warm_7 ?_
  have J4 : ∀ (S3 : St), S3 = (if (300 : Int64) ≤ (deg S b) then S else (u2 S 1 b ((S 1 b) + ((50 : Int64) * ((300 : Int64) - (deg S b)))))) → g_G p l e rm_X1_warm s m args below meth c D A 4 0 0 Q (wG g cI cJ C S3 Z) [] 32 [] := by
    intro S3 eS3
    refine g_vret X hr hlk hQ dX1_warm_32 ?_
    show g_eq _ _ _ _
    try rw [eS3]
    exact ⟨rfl, rfl⟩
  refine g_lj_ge X (tgt := 32) (pc1 := 11) dX1_warm_10 rfl dX1_warm_11 (by decide) (fun h1 => ?_) (fun h1 => ?_)
  · --
    refine g_lv _ [] rfl ?_
    exact J4 _ (by rw [if_pos (c := (300 : Int64) ≤ (deg S b)) h1])
  · --
    refine g_aload_n X 1 dX1_warm_14 rfl rfl ?_
    refine g_get X (C := RX1) (T := TX1) (N := 9) (v := .ref (g 2)) inlX1 0 rfl rfl 1 (Nat.le_of_ble_eq_true rfl) kF_X1_15 rfl dX1_warm_15 ?_
    refine g_iload_n X 2 dX1_warm_18 rfl rfl ?_
    refine g_dup2_11 X dX1_warm_19 rfl rfl ?_
    refine g_lald X 2 rfl (b) rfl (by omega) (Nat.le_of_ble_eq_true rfl) (v := S 1 b) rfl dX1_warm_20 ?_
    refine g_ldc2 X kL_X1_80 dX1_warm_21 ?_
    refine g_ldc2 X kL_X1_78 dX1_warm_24 ?_
    refine g_lload_n X 0 dX1_warm_27 rfl rfl ?_
    refine g_lsub X (v := (300 : Int64) - (deg S b)) dX1_warm_28 rfl ?_
    refine g_lmul X (v := (50 : Int64) * ((300 : Int64) - (deg S b))) dX1_warm_29 rfl ?_
    refine g_ladd X (v := (S 1 b) + ((50 : Int64) * ((300 : Int64) - (deg S b)))) dX1_warm_30 rfl ?_
    obtain ⟨S2, eS2⟩ : ∃ z : St, z = u2 S 1 b ((S 1 b) + ((50 : Int64) * ((300 : Int64) - (deg S b)))) := ⟨_, rfl⟩
    refine g_last X (ws' := wG g cI cJ C S2 Z) 2 rfl (b) rfl (by omega) (Nat.le_of_ble_eq_true rfl) dX1_warm_31 (by rw [eS2]; first | done | (rfl)) ?_
    refine g_lv _ [] rfl ?_
    exact J4 _ (by (try rw [eS2]); rw [if_neg (c := (300 : Int64) ≤ (deg S b)) h1])
/-- neighbours -/
def nbr (a b : Nat) : Bool := decide ((if b ≤ a then a - b else b - a) = 4) || (decide ((if b ≤ a then a - b else b - a) = 1) && decide (a / 4 = b / 4))

theorem hV_X6_areNeighbours : yX6_areNeighbours.cls = RX6 ∧ yX6_areNeighbours.cls ≠ "java/lang/invoke/MethodHandle" ∧ yX6_areNeighbours.cls ≠ "java/lang/invoke/VarHandle" ∧ (parseMethodDescriptor yX6_areNeighbours.desc).map (fun d => d.parameters.length) = some 2 := by decide +kernel
abbrev rm_X6_areNeighbours : Room := { frames := 0, cells := 0, slots := 0, locals := 0 }
set_option maxRecDepth 100000 in
set_option maxHeartbeats 4000000 in
theorem m_X6_areNeighbours (l : Launch) (D : va_G) (cI cJ cZ : ClassId) (a b : Nat) (ha : a < 12) (hb : b < 12) : g_Ct l D cI cJ cZ yX6_areNeighbours cX6_areNeighbours 3 (some .boolean) rm_X6_areNeighbours 0 0 [.int (nI a), .int (nI b)] ([]) (g_eq (some (.int (bI (nbr a b)))) ([])) := by
  refine g_body RX6 [(0, .int (nI a)), (1, .int (nI b))] kH_X6 rfl (Nat.le_of_ble_eq_true rfl) rfl ?_
  intro p e s m args below meth c A X hr hlk hmn Q hQ
  refine g_iload_n X 0 dX6_areNeighbours_0 rfl rfl ?_
  refine g_iload_n X 1 dX6_areNeighbours_1 rfl rfl ?_
  have J3 : ∀ (v2 : Nat), v2 = (if b ≤ a then (a - b) else (b - a)) → g_G p l e rm_X6_areNeighbours s m args below meth c D A 3 0 0 Q ([]) [(0, .int (nI a)), (1, .int (nI b))] 14 [.int (nI v2)] := by
    intro v2 ev2
    have bv2 : v2 < 2147483648 := by subst ev2; (repeat' split) <;> omega
    refine g_istore_n X [(2, .int (nI v2)), (0, .int (nI a)), (1, .int (nI b))] dX6_areNeighbours_14 rfl (Nat.le_of_ble_eq_true rfl) rfl ?_
    refine g_iload_n X 0 dX6_areNeighbours_15 rfl rfl ?_
    refine g_iconst X (v := nI 4) dX6_areNeighbours_16 (by decide +kernel) ?_
    have J8 : ∀ (v7 : Bool), v7 = (if v2 = 4 then true else if ¬ v2 = 1 then false else if ¬ (a / 4) = (b / 4) then false else true) → g_G p l e rm_X6_areNeighbours s m args below meth c D A 3 0 0 Q ([]) [] 39 [.int (bI v7)] := by
      intro v7 ev7
      refine g_zret X hr hlk hQ (bI_nar _) dX6_areNeighbours_39 ?_
      show g_eq _ _ _ _
      try rw [ev7]
      try rw [ev2]
      refine ⟨congrArg (fun z => some (Value.int (bI z))) ?_, rfl⟩
      unfold nbr
      (repeat' split) <;> simp_all
    refine g_icN_eq X (a := v2) (b := 4) (tgt := 34) (by omega) (by omega) dX6_areNeighbours_17 (by decide) (fun h4 => ?_) (fun h4 => ?_)
    · --
      refine g_iconst X (v := nI 1) dX6_areNeighbours_34 (by decide +kernel) ?_
      refine g_goto X (tgt := 39) dX6_areNeighbours_35 (by decide) ?_
      refine g_lv _ [] rfl ?_
      exact J8 _ (by rw [if_pos (c := v2 = 4) h4])
    · --
      refine g_iload_n X 0 dX6_areNeighbours_20 rfl rfl ?_
      refine g_iconst X (v := nI 1) dX6_areNeighbours_21 (by decide +kernel) ?_
      refine g_icN_ne X (a := v2) (b := 1) (tgt := 38) (by omega) (by omega) dX6_areNeighbours_22 (by decide) (fun h5 => ?_) (fun h5 => ?_)
      · --
        refine g_iconst X (v := nI 0) dX6_areNeighbours_38 (by decide +kernel) ?_
        refine g_lv _ [] rfl ?_
        exact J8 _ (by rw [if_neg (c := v2 = 4) h4, if_pos (c := ¬ v2 = 1) h5])
      · --
        refine g_iload_n X 1 dX6_areNeighbours_25 rfl rfl ?_
        refine g_iconst X (v := nI 4) dX6_areNeighbours_26 (by decide +kernel) ?_
        refine g_idiv X (v := nI (a / 4)) dX6_areNeighbours_27 (by decide +kernel) (pk_div (by omega) (by decide) (by decide)) ?_
        refine g_iload_n X 2 dX6_areNeighbours_28 rfl rfl ?_
        refine g_iconst X (v := nI 4) dX6_areNeighbours_29 (by decide +kernel) ?_
        refine g_idiv X (v := nI (b / 4)) dX6_areNeighbours_30 (by decide +kernel) (pk_div (by omega) (by decide) (by decide)) ?_
        refine g_icN_ne X (a := (a / 4)) (b := (b / 4)) (tgt := 38) (by omega) (by omega) dX6_areNeighbours_31 (by decide) (fun h6 => ?_) (fun h6 => ?_)
        · --
          refine g_iconst X (v := nI 0) dX6_areNeighbours_38 (by decide +kernel) ?_
          refine g_lv _ [] rfl ?_
          exact J8 _ (by rw [if_neg (c := v2 = 4) h4, if_neg (c := ¬ v2 = 1) (fun z => z h5), if_pos (c := ¬ (a / 4) = (b / 4)) h6])
        · --
          refine g_iconst X (v := nI 1) dX6_areNeighbours_34 (by decide +kernel) ?_
          refine g_goto X (tgt := 39) dX6_areNeighbours_35 (by decide) ?_
          refine g_lv _ [] rfl ?_
          exact J8 _ (by rw [if_neg (c := v2 = 4) h4, if_neg (c := ¬ v2 = 1) (fun z => z h5), if_neg (c := ¬ (a / 4) = (b / 4)) (fun z => z h6)])
  refine g_icN_ge X (a := a) (b := b) (tgt := 11) (by omega) (by omega) dX6_areNeighbours_2 (by decide) (fun h1 => ?_) (fun h1 => ?_)
  · --
    refine g_iload_n X 0 dX6_areNeighbours_11 rfl rfl ?_
    refine g_iload_n X 1 dX6_areNeighbours_12 rfl rfl ?_
    refine g_isub X (v := nI (a - b)) dX6_areNeighbours_13 (pk_sub (by omega)) ?_
    exact J3 _ (by rw [if_pos (c := b ≤ a) h1])
  · --
    refine g_iload_n X 1 dX6_areNeighbours_5 rfl rfl ?_
    refine g_iload_n X 0 dX6_areNeighbours_6 rfl rfl ?_
    refine g_isub X (v := nI (b - a)) dX6_areNeighbours_7 (pk_sub (by omega)) ?_
    refine g_goto X (tgt := 14) dX6_areNeighbours_8 (by decide) ?_
    exact J3 _ (by rw [if_neg (c := b ≤ a) h1])
/-- through one crack, from a to b; Z the rows ahead of it -/
def flowS (S Z : St) (a b : Nat) (wd : Int32) : St :=
  u2 (takeS (u2 (u2 (u2 S 0 a (S 0 a - (Z 0 a - Z 0 b) * wd.toInt64 / 1000)) 1 a (S 1 a - (Z 0 a - Z 0 b) * wd.toInt64 / 1000 * Z 1 a)) 2 a (S 2 a - Z 2 a * ((Z 0 a - Z 0 b) * wd.toInt64 / 1000) / Z 0 a)) b ((Z 0 a - Z 0 b) * wd.toInt64 / 1000) (Z 1 a)) 2 b
    ((u2 (u2 (u2 S 0 a (S 0 a - (Z 0 a - Z 0 b) * wd.toInt64 / 1000)) 1 a (S 1 a - (Z 0 a - Z 0 b) * wd.toInt64 / 1000 * Z 1 a)) 2 a (S 2 a - Z 2 a * ((Z 0 a - Z 0 b) * wd.toInt64 / 1000) / Z 0 a)) 2 b + Z 2 a * ((Z 0 a - Z 0 b) * wd.toInt64 / 1000) / Z 0 a)
def fbS (S Z : St) (a b : Nat) (wd : Int32) : St := if Z 0 a ≤ Z 0 b then (if Z 0 b ≤ Z 0 a then S else flowS S Z b a wd) else flowS S Z a b wd
theorem ne_of_gt0 {x y : Int64} (h0 : 0 ≤ y.toInt) (h : ¬ x ≤ y) : ¬ x ≤ 0 := by
  intro e
  have h2 := Int64.le_iff_toInt_le.mp e
  have h3 : (0 : Int64).toInt = 0 := by decide
  exact h (Int64.le_iff_toInt_le.mpr (by omega))
def crS (C : Cf) (Z : St) (b : Nat) (S : St) : St := if 12 ≤ b + 4 then (if 12 ≤ b + 1 then S else if nbr b (b + 1) = false then S else fbS S Z b (b + 1) (C 0 b)) else fbS (if 12 ≤ b + 1 then S else if nbr b (b + 1) = false then S else fbS S Z b (b + 1) (C 0 b)) Z b (b + 4) (C 1 b)
/-- the rows ahead of the flow -/
def ahd (S : St) (b : Nat) (Z : St) : St := u2 (u2 (u2 Z 0 b (S 0 b)) 1 b (deg S b)) 2 b (S 2 b)

theorem hV_X1_flow : yX1_flow.cls = RX1 ∧ yX1_flow.cls ≠ "java/lang/invoke/MethodHandle" ∧ yX1_flow.cls ≠ "java/lang/invoke/VarHandle" ∧ (parseMethodDescriptor yX1_flow.desc).map (fun d => d.parameters.length) = some 3 := by decide +kernel
abbrev rm_X1_flow : Room := { frames := 1, cells := 0, slots := 0, locals := 25 }
set_option maxRecDepth 100000 in
set_option maxHeartbeats 4000000 in
theorem m_X1_flow (l : Launch) (D : va_G) (cI cJ cZ : ClassId) (g : Nat → Nat) (C : Cf) (S Z : St) (a b : Nat) (wd : Int32) (ha : a < 12) (hb : b < 12) (hz : ¬ Z 0 a ≤ 0) : g_Ct l D cI cJ cZ yX1_flow cX1_flow 8 none rm_X1_flow 0 0 [.ref (g 0), .int (nI a), .int (nI b), .int wd] (wG g cI cJ C S Z) (g_eq none (wG g cI cJ C (flowS S Z a b wd) Z)) := by
  refine g_body RX1 [(0, .ref (g 0)), (1, .int (nI a)), (2, .int (nI b)), (3, .int wd)] kH_X1 rfl (Nat.le_of_ble_eq_true rfl) rfl ?_
  intro p e s m args below meth c A X hr hlk hmn Q hQ
  refine g_aload_n X 0 dX1_flow_0 rfl rfl ?_
  refine g_get X (C := RX1) (T := TX1) (N := 9) (v := .ref (g 7)) inlX1 0 rfl rfl 6 (Nat.le_of_ble_eq_true rfl) kF_X1_31 rfl dX1_flow_1 ?_
  refine g_iload_n X 1 dX1_flow_4 rfl rfl ?_
  refine g_lald X 7 rfl (a) rfl (by omega) (Nat.le_of_ble_eq_true rfl) (v := Z 0 a) rfl dX1_flow_5 ?_
  refine g_aload_n X 0 dX1_flow_6 rfl rfl ?_
  refine g_get X (C := RX1) (T := TX1) (N := 9) (v := .ref (g 7)) inlX1 0 rfl rfl 6 (Nat.le_of_ble_eq_true rfl) kF_X1_31 rfl dX1_flow_7 ?_
  refine g_iload_n X 2 dX1_flow_10 rfl rfl ?_
  refine g_lald X 7 rfl (b) rfl (by omega) (Nat.le_of_ble_eq_true rfl) (v := Z 0 b) rfl dX1_flow_11 ?_
  refine g_lsub X (v := (Z 0 a) - (Z 0 b)) dX1_flow_12 rfl ?_
  refine g_iload_n X 3 dX1_flow_13 rfl rfl ?_
  refine g_i2l X (v := wd.toInt64) dX1_flow_14 rfl ?_
  refine g_lmul X (v := ((Z 0 a) - (Z 0 b)) * wd.toInt64) dX1_flow_15 rfl ?_
  refine g_ldc2 X kL_X1_60 dX1_flow_16 ?_
  refine g_ldiv X (v := (((Z 0 a) - (Z 0 b)) * wd.toInt64) / (1000 : Int64)) dX1_flow_19 (by decide +kernel) rfl ?_
  refine g_lstore X [(4, .long ((((Z 0 a) - (Z 0 b)) * wd.toInt64) / (1000 : Int64))), (0, .ref (g 0)), (1, .int (nI a)), (2, .int (nI b)), (3, .int wd)] dX1_flow_20 (Nat.le_of_ble_eq_true rfl) rfl ?_
  refine g_aload_n X 1 dX1_flow_22 rfl rfl ?_
  refine g_get X (C := RX1) (T := TX1) (N := 9) (v := .ref (g 7)) inlX1 0 rfl rfl 6 (Nat.le_of_ble_eq_true rfl) kF_X1_31 rfl dX1_flow_23 ?_
  refine g_iload_n X 2 dX1_flow_26 rfl rfl ?_
  refine g_lald X 7 rfl (a) rfl (by omega) (Nat.le_of_ble_eq_true rfl) (v := Z 0 a) rfl dX1_flow_27 ?_
  refine g_lconst X (v := 0) dX1_flow_28 (by decide +kernel) ?_
  refine g_lj_le X (tgt := 52) (pc1 := 30) dX1_flow_29 rfl dX1_flow_30 (by decide) (fun h1 => absurd h1 hz) (fun h1 => ?_)
  refine g_aload_n X 1 dX1_flow_33 rfl rfl ?_
  refine g_get X (C := RX1) (T := TX1) (N := 9) (v := .ref (g 9)) inlX1 0 rfl rfl 8 (Nat.le_of_ble_eq_true rfl) kF_X1_37 rfl dX1_flow_34 ?_
  refine g_iload_n X 2 dX1_flow_37 rfl rfl ?_
  refine g_lald X 9 rfl (a) rfl (by omega) (Nat.le_of_ble_eq_true rfl) (v := Z 2 a) rfl dX1_flow_38 ?_
  refine g_lload X 0 dX1_flow_39 rfl ?_
  refine g_lmul X (v := (Z 2 a) * ((((Z 0 a) - (Z 0 b)) * wd.toInt64) / (1000 : Int64))) dX1_flow_41 rfl ?_
  refine g_aload_n X 1 dX1_flow_42 rfl rfl ?_
  refine g_get X (C := RX1) (T := TX1) (N := 9) (v := .ref (g 7)) inlX1 0 rfl rfl 6 (Nat.le_of_ble_eq_true rfl) kF_X1_31 rfl dX1_flow_43 ?_
  refine g_iload_n X 2 dX1_flow_46 rfl rfl ?_
  refine g_lald X 7 rfl (a) rfl (by omega) (Nat.le_of_ble_eq_true rfl) (v := Z 0 a) rfl dX1_flow_47 ?_
  refine g_ldiv X (v := ((Z 2 a) * ((((Z 0 a) - (Z 0 b)) * wd.toInt64) / (1000 : Int64))) / (Z 0 a)) dX1_flow_48 (ne_le0 hz) rfl ?_
  refine g_goto X (tgt := 53) dX1_flow_49 (by decide) ?_
  refine g_lstore X [(6, .long (((Z 2 a) * ((((Z 0 a) - (Z 0 b)) * wd.toInt64) / (1000 : Int64))) / (Z 0 a))), (4, .long ((((Z 0 a) - (Z 0 b)) * wd.toInt64) / (1000 : Int64))), (0, .ref (g 0)), (1, .int (nI a)), (2, .int (nI b)), (3, .int wd)] dX1_flow_53 (Nat.le_of_ble_eq_true rfl) rfl ?_
  refine g_aload_n X 2 dX1_flow_55 rfl rfl ?_
  refine g_get X (C := RX1) (T := TX1) (N := 9) (v := .ref (g 1)) inlX1 0 rfl rfl 0 (Nat.le_of_ble_eq_true rfl) kF_X1_9 rfl dX1_flow_56 ?_
  refine g_iload_n X 3 dX1_flow_59 rfl rfl ?_
  refine g_dup2_11 X dX1_flow_60 rfl rfl ?_
  refine g_lald X 1 rfl (a) rfl (by omega) (Nat.le_of_ble_eq_true rfl) (v := S 0 a) rfl dX1_flow_61 ?_
  refine g_lload X 1 dX1_flow_62 rfl ?_
  refine g_lsub X (v := (S 0 a) - ((((Z 0 a) - (Z 0 b)) * wd.toInt64) / (1000 : Int64))) dX1_flow_64 rfl ?_
  obtain ⟨S2, eS2⟩ : ∃ z : St, z = u2 S 0 a ((S 0 a) - ((((Z 0 a) - (Z 0 b)) * wd.toInt64) / (1000 : Int64))) := ⟨_, rfl⟩
  refine g_last X (ws' := wG g cI cJ C S2 Z) 1 rfl (a) rfl (by omega) (Nat.le_of_ble_eq_true rfl) dX1_flow_65 (by rw [eS2]; first | done | (rfl)) ?_
  refine g_aload_n X 2 dX1_flow_66 rfl rfl ?_
  refine g_get X (C := RX1) (T := TX1) (N := 9) (v := .ref (g 2)) inlX1 0 rfl rfl 1 (Nat.le_of_ble_eq_true rfl) kF_X1_15 rfl dX1_flow_67 ?_
  refine g_iload_n X 3 dX1_flow_70 rfl rfl ?_
  refine g_dup2_11 X dX1_flow_71 rfl rfl ?_
  refine g_lald X 2 rfl (a) rfl (by omega) (Nat.le_of_ble_eq_true rfl) (v := S2 1 a) rfl dX1_flow_72 ?_
  refine g_lload X 1 dX1_flow_73 rfl ?_
  refine g_aload_n X 2 dX1_flow_75 rfl rfl ?_
  refine g_get X (C := RX1) (T := TX1) (N := 9) (v := .ref (g 8)) inlX1 0 rfl rfl 7 (Nat.le_of_ble_eq_true rfl) kF_X1_34 rfl dX1_flow_76 ?_
  refine g_iload_n X 3 dX1_flow_79 rfl rfl ?_
  refine g_lald X 8 rfl (a) rfl (by omega) (Nat.le_of_ble_eq_true rfl) (v := Z 1 a) rfl dX1_flow_80 ?_
  refine g_lmul X (v := ((((Z 0 a) - (Z 0 b)) * wd.toInt64) / (1000 : Int64)) * (Z 1 a)) dX1_flow_81 rfl ?_
  refine g_lsub X (v := (S2 1 a) - (((((Z 0 a) - (Z 0 b)) * wd.toInt64) / (1000 : Int64)) * (Z 1 a))) dX1_flow_82 rfl ?_
  obtain ⟨S3, eS3⟩ : ∃ z : St, z = u2 S2 1 a ((S2 1 a) - (((((Z 0 a) - (Z 0 b)) * wd.toInt64) / (1000 : Int64)) * (Z 1 a))) := ⟨_, rfl⟩
  refine g_last X (ws' := wG g cI cJ C S3 Z) 2 rfl (a) rfl (by omega) (Nat.le_of_ble_eq_true rfl) dX1_flow_83 (by rw [eS3]; first | done | (rfl)) ?_
  refine g_aload_n X 2 dX1_flow_84 rfl rfl ?_
  refine g_get X (C := RX1) (T := TX1) (N := 9) (v := .ref (g 3)) inlX1 0 rfl rfl 2 (Nat.le_of_ble_eq_true rfl) kF_X1_18 rfl dX1_flow_85 ?_
  refine g_iload_n X 3 dX1_flow_88 rfl rfl ?_
  refine g_dup2_11 X dX1_flow_89 rfl rfl ?_
  refine g_lald X 3 rfl (a) rfl (by omega) (Nat.le_of_ble_eq_true rfl) (v := S3 2 a) rfl dX1_flow_90 ?_
  refine g_lload X 0 dX1_flow_91 rfl ?_
  refine g_lsub X (v := (S3 2 a) - (((Z 2 a) * ((((Z 0 a) - (Z 0 b)) * wd.toInt64) / (1000 : Int64))) / (Z 0 a))) dX1_flow_93 rfl ?_
  obtain ⟨S4, eS4⟩ : ∃ z : St, z = u2 S3 2 a ((S3 2 a) - (((Z 2 a) * ((((Z 0 a) - (Z 0 b)) * wd.toInt64) / (1000 : Int64))) / (Z 0 a))) := ⟨_, rfl⟩
  refine g_last X (ws' := wG g cI cJ C S4 Z) 3 rfl (a) rfl (by omega) (Nat.le_of_ble_eq_true rfl) dX1_flow_94 (by rw [eS4]; first | done | (rfl)) ?_
  refine g_aload_n X 2 dX1_flow_95 rfl rfl ?_
  refine g_iload_n X 4 dX1_flow_96 rfl rfl ?_
  refine g_lload X 1 dX1_flow_97 rfl ?_
  refine g_aload_n X 2 dX1_flow_99 rfl rfl ?_
  refine g_get X (C := RX1) (T := TX1) (N := 9) (v := .ref (g 8)) inlX1 0 rfl rfl 7 (Nat.le_of_ble_eq_true rfl) kF_X1_34 rfl dX1_flow_100 ?_
  refine g_iload_n X 3 dX1_flow_103 rfl rfl ?_
  refine g_lald X 8 rfl (a) rfl (by omega) (Nat.le_of_ble_eq_true rfl) (v := Z 1 a) rfl dX1_flow_104 ?_
  obtain ⟨S5, eS5⟩ : ∃ z : St, z = takeS S4 b ((((Z 0 a) - (Z 0 b)) * wd.toInt64) / (1000 : Int64)) (Z 1 a) := ⟨_, rfl⟩
  refine g_callV X (As := [.int (nI b), .long ((((Z 0 a) - (Z 0 b)) * wd.toInt64) / (1000 : Int64)), .long (Z 1 a)]) (rest := []) (m_X1_take l D cI cJ cZ g C S4 Z b ((((Z 0 a) - (Z 0 b)) * wd.toInt64) / (1000 : Int64)) (Z 1 a) (by omega)) kM_X1_74 kI_yX1_take kS_yX1_take kZ_RX1 kC_yX1_take hV_X1_take rfl rfl rfl 0 rfl (ci := 1) rfl ⟨Nat.le_of_ble_eq_true rfl, Nat.le_of_ble_eq_true rfl⟩ ⟨Nat.le_of_ble_eq_true rfl, Nat.le_of_ble_eq_true rfl⟩ (Nat.le_of_ble_eq_true rfl) dX1_flow_105 rfl [0, 1, 2, 3, 4, 5, 6, 7, 8, 9] rfl rfl (g_kk1 (w2 := wG g cI cJ C S5 Z) (by rw [eS5]; exact ⟨[0, 1, 2, 3, 4, 5, 6, 7, 8, 9], [], [0, 1, 2, 3, 4, 5, 6, 7, 8, 9], [], rfl, rfl, rfl, rfl, by decide, rfl, rfl⟩) ?_)
  refine g_aload_n X 2 dX1_flow_108 rfl rfl ?_
  refine g_get X (C := RX1) (T := TX1) (N := 9) (v := .ref (g 3)) inlX1 0 rfl rfl 2 (Nat.le_of_ble_eq_true rfl) kF_X1_18 rfl dX1_flow_109 ?_
  refine g_iload_n X 4 dX1_flow_112 rfl rfl ?_
  refine g_dup2_11 X dX1_flow_113 rfl rfl ?_
  refine g_lald X 3 rfl (b) rfl (by omega) (Nat.le_of_ble_eq_true rfl) (v := S5 2 b) rfl dX1_flow_114 ?_
  refine g_lload X 0 dX1_flow_115 rfl ?_
  refine g_ladd X (v := (S5 2 b) + (((Z 2 a) * ((((Z 0 a) - (Z 0 b)) * wd.toInt64) / (1000 : Int64))) / (Z 0 a))) dX1_flow_117 rfl ?_
  obtain ⟨S6, eS6⟩ : ∃ z : St, z = u2 S5 2 b ((S5 2 b) + (((Z 2 a) * ((((Z 0 a) - (Z 0 b)) * wd.toInt64) / (1000 : Int64))) / (Z 0 a))) := ⟨_, rfl⟩
  refine g_last X (ws' := wG g cI cJ C S6 Z) 3 rfl (b) rfl (by omega) (Nat.le_of_ble_eq_true rfl) dX1_flow_118 (by rw [eS6]; first | done | (rfl)) ?_
  refine g_vret X hr hlk hQ dX1_flow_119 ?_
  show g_eq _ _ _ _
  try rw [eS6]
  try rw [eS5]
  try rw [eS4]
  try rw [eS3]
  try rw [eS2]
  exact ⟨rfl, rfl⟩
theorem hV_X1_flowBetween : yX1_flowBetween.cls = RX1 ∧ yX1_flowBetween.cls ≠ "java/lang/invoke/MethodHandle" ∧ yX1_flowBetween.cls ≠ "java/lang/invoke/VarHandle" ∧ (parseMethodDescriptor yX1_flowBetween.desc).map (fun d => d.parameters.length) = some 3 := by decide +kernel
abbrev rm_X1_flowBetween : Room := { frames := 2, cells := 0, slots := 0, locals := 52 }
set_option maxRecDepth 100000 in
set_option maxHeartbeats 4000000 in
theorem m_X1_flowBetween (l : Launch) (D : va_G) (cI cJ cZ : ClassId) (g : Nat → Nat) (C : Cf) (S Z : St) (a b : Nat) (wd : Int32) (ha : a < 12) (hb : b < 12) (ha0 : 0 ≤ (Z 0 a).toInt) (hb0 : 0 ≤ (Z 0 b).toInt) : g_Ct l D cI cJ cZ yX1_flowBetween cX1_flowBetween 4 none rm_X1_flowBetween 0 0 [.ref (g 0), .int (nI a), .int (nI b), .int wd] (wG g cI cJ C S Z) (g_eq none (wG g cI cJ C (fbS S Z a b wd) Z)) := by
  refine g_body RX1 [(0, .ref (g 0)), (1, .int (nI a)), (2, .int (nI b)), (3, .int wd)] kH_X1 rfl (Nat.le_of_ble_eq_true rfl) rfl ?_
  intro p e s m args below meth c A X hr hlk hmn Q hQ
  refine g_aload_n X 0 dX1_flowBetween_0 rfl rfl ?_
  refine g_get X (C := RX1) (T := TX1) (N := 9) (v := .ref (g 7)) inlX1 0 rfl rfl 6 (Nat.le_of_ble_eq_true rfl) kF_X1_31 rfl dX1_flowBetween_1 ?_
  refine g_iload_n X 1 dX1_flowBetween_4 rfl rfl ?_
  refine g_lald X 7 rfl (a) rfl (by omega) (Nat.le_of_ble_eq_true rfl) (v := Z 0 a) rfl dX1_flowBetween_5 ?_
  refine g_aload_n X 0 dX1_flowBetween_6 rfl rfl ?_
  refine g_get X (C := RX1) (T := TX1) (N := 9) (v := .ref (g 7)) inlX1 0 rfl rfl 6 (Nat.le_of_ble_eq_true rfl) kF_X1_31 rfl dX1_flowBetween_7 ?_
  refine g_iload_n X 2 dX1_flowBetween_10 rfl rfl ?_
  refine g_lald X 7 rfl (b) rfl (by omega) (Nat.le_of_ble_eq_true rfl) (v := Z 0 b) rfl dX1_flowBetween_11 ?_
  have J6 : ∀ (S5 : St), S5 = (if (Z 0 a) ≤ (Z 0 b) then if (Z 0 b) ≤ (Z 0 a) then S else (flowS S Z b a wd) else (flowS S Z a b wd)) → g_G p l e rm_X1_flowBetween s m args below meth c D A 4 0 0 Q (wG g cI cJ C S5 Z) [] 49 [] := by
    intro S5 eS5
    refine g_vret X hr hlk hQ dX1_flowBetween_49 ?_
    show g_eq _ _ _ _
    try rw [eS5]
    exact ⟨rfl, rfl⟩
  refine g_lj_le X (tgt := 26) (pc1 := 13) dX1_flowBetween_12 rfl dX1_flowBetween_13 (by decide) (fun h1 => ?_) (fun h1 => ?_)
  · --
    refine g_aload_n X 0 dX1_flowBetween_26 rfl rfl ?_
    refine g_get X (C := RX1) (T := TX1) (N := 9) (v := .ref (g 7)) inlX1 0 rfl rfl 6 (Nat.le_of_ble_eq_true rfl) kF_X1_31 rfl dX1_flowBetween_27 ?_
    refine g_iload_n X 2 dX1_flowBetween_30 rfl rfl ?_
    refine g_lald X 7 rfl (b) rfl (by omega) (Nat.le_of_ble_eq_true rfl) (v := Z 0 b) rfl dX1_flowBetween_31 ?_
    refine g_aload_n X 0 dX1_flowBetween_32 rfl rfl ?_
    refine g_get X (C := RX1) (T := TX1) (N := 9) (v := .ref (g 7)) inlX1 0 rfl rfl 6 (Nat.le_of_ble_eq_true rfl) kF_X1_31 rfl dX1_flowBetween_33 ?_
    refine g_iload_n X 1 dX1_flowBetween_36 rfl rfl ?_
    refine g_lald X 7 rfl (a) rfl (by omega) (Nat.le_of_ble_eq_true rfl) (v := Z 0 a) rfl dX1_flowBetween_37 ?_
    refine g_lj_le X (tgt := 49) (pc1 := 39) dX1_flowBetween_38 rfl dX1_flowBetween_39 (by decide) (fun h2 => ?_) (fun h2 => ?_)
    · --
      refine g_lv _ [] rfl ?_
      exact J6 _ (by rw [if_pos (c := (Z 0 a) ≤ (Z 0 b)) h1, if_pos (c := (Z 0 b) ≤ (Z 0 a)) h2])
    · --
      refine g_aload_n X 0 dX1_flowBetween_42 rfl rfl ?_
      refine g_iload_n X 2 dX1_flowBetween_43 rfl rfl ?_
      refine g_iload_n X 1 dX1_flowBetween_44 rfl rfl ?_
      refine g_iload_n X 3 dX1_flowBetween_45 rfl rfl ?_
      obtain ⟨S3, eS3⟩ : ∃ z : St, z = flowS S Z b a wd := ⟨_, rfl⟩
      refine g_callV X (As := [.int (nI b), .int (nI a), .int wd]) (rest := []) (m_X1_flow l D cI cJ cZ g C S Z b a wd hb ha (ne_of_gt0 ha0 (by assumption))) kM_X1_71 kI_yX1_flow kS_yX1_flow kZ_RX1 kC_yX1_flow hV_X1_flow rfl rfl rfl 0 rfl (ci := 1) rfl ⟨Nat.le_of_ble_eq_true rfl, Nat.le_of_ble_eq_true rfl⟩ ⟨Nat.le_of_ble_eq_true rfl, Nat.le_of_ble_eq_true rfl⟩ (Nat.le_of_ble_eq_true rfl) dX1_flowBetween_46 rfl [0, 1, 2, 3, 4, 5, 6, 7, 8, 9] rfl rfl (g_kk1 (w2 := wG g cI cJ C S3 Z) (by rw [eS3]; exact ⟨[0, 1, 2, 3, 4, 5, 6, 7, 8, 9], [], [0, 1, 2, 3, 4, 5, 6, 7, 8, 9], [], rfl, rfl, rfl, rfl, by decide, rfl, rfl⟩) ?_)
      refine g_lv _ [] rfl ?_
      exact J6 _ (by (try rw [eS3]); rw [if_pos (c := (Z 0 a) ≤ (Z 0 b)) h1, if_neg (c := (Z 0 b) ≤ (Z 0 a)) h2])
  · --
    refine g_aload_n X 0 dX1_flowBetween_16 rfl rfl ?_
    refine g_iload_n X 1 dX1_flowBetween_17 rfl rfl ?_
    refine g_iload_n X 2 dX1_flowBetween_18 rfl rfl ?_
    refine g_iload_n X 3 dX1_flowBetween_19 rfl rfl ?_
    obtain ⟨S4, eS4⟩ : ∃ z : St, z = flowS S Z a b wd := ⟨_, rfl⟩
    refine g_callV X (As := [.int (nI a), .int (nI b), .int wd]) (rest := []) (m_X1_flow l D cI cJ cZ g C S Z a b wd ha hb (ne_of_gt0 hb0 (by assumption))) kM_X1_71 kI_yX1_flow kS_yX1_flow kZ_RX1 kC_yX1_flow hV_X1_flow rfl rfl rfl 0 rfl (ci := 1) rfl ⟨Nat.le_of_ble_eq_true rfl, Nat.le_of_ble_eq_true rfl⟩ ⟨Nat.le_of_ble_eq_true rfl, Nat.le_of_ble_eq_true rfl⟩ (Nat.le_of_ble_eq_true rfl) dX1_flowBetween_20 rfl [0, 1, 2, 3, 4, 5, 6, 7, 8, 9] rfl rfl (g_kk1 (w2 := wG g cI cJ C S4 Z) (by rw [eS4]; exact ⟨[0, 1, 2, 3, 4, 5, 6, 7, 8, 9], [], [0, 1, 2, 3, 4, 5, 6, 7, 8, 9], [], rfl, rfl, rfl, rfl, by decide, rfl, rfl⟩) ?_)
    refine g_goto X (tgt := 49) dX1_flowBetween_23 (by decide) ?_
    refine g_lv _ [] rfl ?_
    exact J6 _ (by (try rw [eS4]); rw [if_neg (c := (Z 0 a) ≤ (Z 0 b)) h1])
theorem hV_X1_allWater : yX1_allWater.cls = RX1 ∧ yX1_allWater.cls ≠ "java/lang/invoke/MethodHandle" ∧ yX1_allWater.cls ≠ "java/lang/invoke/VarHandle" ∧ (parseMethodDescriptor yX1_allWater.desc).map (fun d => d.parameters.length) = some 0 := by decide +kernel
abbrev rm_X1_allWater : Room := { frames := 0, cells := 0, slots := 0, locals := 0 }
set_option maxRecDepth 100000 in
set_option maxHeartbeats 4000000 in
theorem m_X1_allWater (l : Launch) (D : va_G) (cI cJ cZ : ClassId) (g : Nat → Nat) (C : Cf) (S Z : St)  : g_Ct l D cI cJ cZ yX1_allWater cX1_allWater 4 (some .long) rm_X1_allWater 0 0 [.ref (g 0)] (wG g cI cJ C S Z) (g_eq (some (.long (itr (fun i a => a + S 0 i) 0 12))) (wG g cI cJ C S Z)) := by
  refine g_body RX1 [(0, .ref (g 0))] kH_X1 rfl (Nat.le_of_ble_eq_true rfl) rfl ?_
  intro p e s m args below meth c A X hr hlk hmn Q hQ
  refine g_lconst X (v := 0) dX1_allWater_0 (by decide +kernel) ?_
  refine g_lstore_n X [(1, .long (0 : Int64)), (0, .ref (g 0))] dX1_allWater_1 rfl (Nat.le_of_ble_eq_true rfl) rfl ?_
  refine g_iconst X (v := nI 0) dX1_allWater_2 (by decide +kernel) ?_
  refine g_istore_n X [(3, .int (nI 0)), (1, .long (0 : Int64)), (0, .ref (g 0))] dX1_allWater_3 rfl (Nat.le_of_ble_eq_true rfl) rfl ?_
  have L1 : ∀ (n3 i2 : Nat) (a4 : Int64), i2 + n3 = 12 → a4 = itr (fun i a => a + S 0 i) 0 i2 → g_G p l e rm_X1_allWater s m args below meth c D A 4 0 0 Q (wG g cI cJ C S Z) [(0, .ref (g 0)), (1, .long a4), (3, .int (nI i2))] 4 [] := by
    intro n3
    induction n3 with
    | zero =>
      intro i2 a4 hi5 ea4
      obtain rfl : i2 = 12 := by omega
      refine g_iload_n X 2 dX1_allWater_4 rfl rfl ?_
      refine g_bipush X (v := nI 12) dX1_allWater_5 (by decide +kernel) ?_
      refine g_icN_ge X (a := 12) (b := 12) (tgt := 25) (by omega) (by omega) dX1_allWater_7 (by decide) (fun h6 => ?_) (fun h6 => absurd h6 (by omega))
      refine g_lload_n X 1 dX1_allWater_25 rfl rfl ?_
      refine g_lret X hr hlk hQ dX1_allWater_26 ?_
      show g_eq _ _ _ _
      try rw [ea4]
      exact ⟨rfl, rfl⟩
    | succ n3 ihL1 =>
      intro i2 a4 hi5 ea4
      have hlti2 : i2 < 12 := by omega
      refine g_iload_n X 2 dX1_allWater_4 rfl rfl ?_
      refine g_bipush X (v := nI 12) dX1_allWater_5 (by decide +kernel) ?_
      refine g_icN_ge X (a := i2) (b := 12) (tgt := 25) (by omega) (by omega) dX1_allWater_7 (by decide) (fun h7 => absurd h7 (by omega)) (fun h7 => ?_)
      refine g_lload_n X 1 dX1_allWater_10 rfl rfl ?_
      refine g_aload_n X 0 dX1_allWater_11 rfl rfl ?_
      refine g_get X (C := RX1) (T := TX1) (N := 9) (v := .ref (g 1)) inlX1 0 rfl rfl 0 (Nat.le_of_ble_eq_true rfl) kF_X1_9 rfl dX1_allWater_12 ?_
      refine g_iload_n X 2 dX1_allWater_15 rfl rfl ?_
      refine g_lald X 1 rfl (i2) rfl (by omega) (Nat.le_of_ble_eq_true rfl) (v := S 0 i2) rfl dX1_allWater_16 ?_
      refine g_ladd X (v := a4 + (S 0 i2)) dX1_allWater_17 rfl ?_
      refine g_lstore_n X [(1, .long (a4 + (S 0 i2))), (0, .ref (g 0)), (3, .int (nI i2))] dX1_allWater_18 rfl (Nat.le_of_ble_eq_true rfl) rfl ?_
      refine g_iinc X [(3, .int (nI (i2 + 1))), (1, .long (a4 + (S 0 i2))), (0, .ref (g 0))] (q := 2) (v := nI (i2 + 1)) dX1_allWater_19 rfl ((congrArg (fun z => nI (i2) + z) (show Int32.ofInt 1 = nI 1 by decide +kernel)).trans ((nI_add _ _).trans (congrArg nI (by omega)))) (Nat.le_of_ble_eq_true rfl) rfl ?_
      refine g_goto X (tgt := 4) dX1_allWater_22 (by decide) ?_
      refine g_lv _ [2, 1, 0] rfl ?_
      exact ihL1 (i2 + 1) _ (by omega) (by (try rw [ea4]); first | done | (rfl))
  refine g_lv _ [2, 1, 0] rfl ?_
  exact L1 (12) 0 _ (by omega) (by first | rfl | (first | done | rfl))
theorem hV_X1_fill : yX1_fill.cls = RX1 ∧ yX1_fill.cls ≠ "java/lang/invoke/MethodHandle" ∧ yX1_fill.cls ≠ "java/lang/invoke/VarHandle" ∧ (parseMethodDescriptor yX1_fill.desc).map (fun d => d.parameters.length) = some 3 := by decide +kernel
abbrev rm_X1_fill : Room := { frames := 0, cells := 0, slots := 0, locals := 0 }
set_option maxRecDepth 100000 in
set_option maxHeartbeats 4000000 in
theorem m_X1_fill (l : Launch) (D : va_G) (cI cJ cZ : ClassId) (g : Nat → Nat) (C : Cf) (S Z : St) (b w : Nat) (d : Int32) (hb : b < 12) (hw : w ≤ 50000) : g_Ct l D cI cJ cZ yX1_fill cX1_fill 4 none rm_X1_fill 0 0 [.ref (g 0), .int (nI b), .int (nI w), .int d] (wG g cI cJ C S Z) (g_eq none (wG g cI cJ C (fillS S b w d.toInt64) Z)) := by
  refine g_body RX1 [(0, .ref (g 0)), (1, .int (nI b)), (2, .int (nI w)), (3, .int d)] kH_X1 rfl (Nat.le_of_ble_eq_true rfl) rfl ?_
  intro p e s m args below meth c A X hr hlk hmn Q hQ
  refine g_aload_n X 0 dX1_fill_0 rfl rfl ?_
  refine g_get X (C := RX1) (T := TX1) (N := 9) (v := .ref (g 1)) inlX1 0 rfl rfl 0 (Nat.le_of_ble_eq_true rfl) kF_X1_9 rfl dX1_fill_1 ?_
  refine g_iload_n X 1 dX1_fill_4 rfl rfl ?_
  refine g_iload_n X 2 dX1_fill_5 rfl rfl ?_
  refine g_i2l X (v := lN w) dX1_fill_6 (nI_l (by omega)) ?_
  obtain ⟨S1, eS1⟩ : ∃ z : St, z = u2 S 0 b (lN w) := ⟨_, rfl⟩
  refine g_last X (ws' := wG g cI cJ C S1 Z) 1 rfl (b) rfl (by omega) (Nat.le_of_ble_eq_true rfl) dX1_fill_7 (by rw [eS1]; first | done | (rfl)) ?_
  refine g_aload_n X 0 dX1_fill_8 rfl rfl ?_
  refine g_get X (C := RX1) (T := TX1) (N := 9) (v := .ref (g 2)) inlX1 0 rfl rfl 1 (Nat.le_of_ble_eq_true rfl) kF_X1_15 rfl dX1_fill_9 ?_
  refine g_iload_n X 1 dX1_fill_12 rfl rfl ?_
  refine g_iload_n X 3 dX1_fill_13 rfl rfl ?_
  refine g_i2l X (v := d.toInt64) dX1_fill_14 rfl ?_
  refine g_iload_n X 2 dX1_fill_15 rfl rfl ?_
  refine g_sipush X (v := nI 20000) dX1_fill_16 (by decide +kernel) ?_
  refine g_iadd X (v := nI (w + 20000)) dX1_fill_19 ((nI_add _ _).trans (congrArg nI (by omega))) ?_
  refine g_i2l X (v := lN (w + 20000)) dX1_fill_20 (nI_l (by omega)) ?_
  refine g_lmul X (v := d.toInt64 * (lN (w + 20000))) dX1_fill_21 rfl ?_
  obtain ⟨S2, eS2⟩ : ∃ z : St, z = u2 S1 1 b (d.toInt64 * (lN (w + 20000))) := ⟨_, rfl⟩
  refine g_last X (ws' := wG g cI cJ C S2 Z) 2 rfl (b) rfl (by omega) (Nat.le_of_ble_eq_true rfl) dX1_fill_22 (by rw [eS2]; first | done | (rfl)) ?_
  refine g_vret X hr hlk hQ dX1_fill_23 ?_
  show g_eq _ _ _ _
  try rw [eS2]
  try rw [eS1]
  exact ⟨rfl, rfl⟩
theorem itr_congr {α : Type} {f g : Nat → α → α} : ∀ (n : Nat) (a : α), (∀ i, i < n → ∀ x, f i x = g i x) → itr f a n = itr g a n
  | 0, _, _ => rfl
  | n + 1, a, h => by
    show f n (itr f a n) = g n (itr g a n)
    rw [itr_congr n a (fun i hi => h i (by omega)), h n (by omega)]
theorem ahd_at (S Z : St) : ∀ (n b : Nat), b < n → itr (ahd S) Z n 0 b = S 0 b ∧ itr (ahd S) Z n 1 b = deg S b ∧ itr (ahd S) Z n 2 b = S 2 b
  | 0, b, h => absurd h (Nat.not_lt_zero b)
  | n + 1, b, h => by
    have e : itr (ahd S) Z (n + 1) = ahd S n (itr (ahd S) Z n) := rfl
    rw [e]
    unfold ahd
    simp only [u2_ap]
    by_cases hb : b = n
    · subst hb
      simp
    · have h2 := ahd_at S Z n b (by omega)
      simp [hb]
      exact h2
theorem ahd_oth (S Z : St) (c b : Nat) (hc : 3 ≤ c) : ∀ n, itr (ahd S) Z n c b = Z c b
  | 0 => rfl
  | n + 1 => by
    have e : itr (ahd S) Z (n + 1) = ahd S n (itr (ahd S) Z n) := rfl
    rw [e]
    unfold ahd
    simp only [u2_ap]
    rw [if_neg (by omega), if_neg (by omega), if_neg (by omega)]
    exact ahd_oth S Z c b hc n
def zr (Z Z2 : St) : Prop := ∀ b, b < 12 → Z 0 b = Z2 0 b ∧ Z 1 b = Z2 1 b ∧ Z 2 b = Z2 2 b
theorem flow_congr {S Z Z2 : St} {a b : Nat} {wd : Int32} (h : zr Z Z2) (ha : a < 12) (hb : b < 12) : flowS S Z a b wd = flowS S Z2 a b wd := by
  simp only [flowS, (h a ha).1, (h b hb).1, (h a ha).2.1, (h a ha).2.2]
theorem fb_congr {S Z Z2 : St} {a b : Nat} {wd : Int32} (h : zr Z Z2) (ha : a < 12) (hb : b < 12) : fbS S Z a b wd = fbS S Z2 a b wd := by
  simp only [fbS, (h a ha).1, (h b hb).1, flow_congr h ha hb, flow_congr h hb ha]
theorem cr_congr {C : Cf} {Z Z2 : St} (h : zr Z Z2) {b : Nat} (hb : b < 12) (S : St) : crS C Z b S = crS C Z2 b S := by
  have h1 : ∀ S, (if 12 ≤ b + 1 then S else if nbr b (b + 1) = false then S else fbS S Z b (b + 1) (C 0 b)) = (if 12 ≤ b + 1 then S else if nbr b (b + 1) = false then S else fbS S Z2 b (b + 1) (C 0 b)) := by
    intro S
    by_cases hc : 12 ≤ b + 1
    · rw [if_pos hc, if_pos hc]
    · rw [if_neg hc, if_neg hc, fb_congr h hb (by omega)]
  unfold crS
  rw [h1]
  by_cases hc : 12 ≤ b + 4
  · rw [if_pos hc, if_pos hc]
  · rw [if_neg hc, if_neg hc, fb_congr h hb (by omega)]
/-- all cracks at once -/
def crk (C : Cf) (S : St) : St := itr (crS C (fun c b => if c = 0 then S 0 b else if c = 1 then deg S b else S 2 b)) S 12
theorem crk_eq (C : Cf) (S Z : St) : itr (crS C (itr (ahd S) Z 12)) S 12 = crk C S := by
  unfold crk
  refine itr_congr 12 S (fun i hi x => cr_congr (fun b hb => ?_) hi x)
  have h := ahd_at S Z 12 b hb
  exact ⟨h.1, h.2.1, h.2.2⟩

theorem hV_X1_flowThroughCracks : yX1_flowThroughCracks.cls = RX1 ∧ yX1_flowThroughCracks.cls ≠ "java/lang/invoke/MethodHandle" ∧ yX1_flowThroughCracks.cls ≠ "java/lang/invoke/VarHandle" ∧ (parseMethodDescriptor yX1_flowThroughCracks.desc).map (fun d => d.parameters.length) = some 0 := by decide +kernel
abbrev rm_X1_flowThroughCracks : Room := { frames := 3, cells := 0, slots := 0, locals := 75 }
set_option maxRecDepth 100000 in
set_option maxHeartbeats 4000000 in
theorem m_X1_flowThroughCracks (l : Launch) (D : va_G) (cI cJ cZ : ClassId) (g : Nat → Nat) (C : Cf) (S Z : St) (hW : Wok S) : g_Ct l D cI cJ cZ yX1_flowThroughCracks cX1_flowThroughCracks 2 none rm_X1_flowThroughCracks 0 0 [.ref (g 0)] (wG g cI cJ C S Z) (g_eq none (wG g cI cJ C (crk C S) (itr (ahd S) Z 12))) := by
  refine g_body RX1 [(0, .ref (g 0))] kH_X1 rfl (Nat.le_of_ble_eq_true rfl) rfl ?_
  intro p e s m args below meth c A X hr hlk hmn Q hQ
  refine g_iconst X (v := nI 0) dX1_flowThroughCracks_0 (by decide +kernel) ?_
  refine g_istore_n X [(1, .int (nI 0)), (0, .ref (g 0))] dX1_flowThroughCracks_1 rfl (Nat.le_of_ble_eq_true rfl) rfl ?_
  have L1 : ∀ (n3 i2 : Nat) (X4 : St), i2 + n3 = 12 → X4 = itr (ahd S) Z i2 → g_G p l e rm_X1_flowThroughCracks s m args below meth c D A 2 0 0 Q (wG g cI cJ C S X4) [(0, .ref (g 0)), (1, .int (nI i2))] 2 [] := by
    intro n3
    induction n3 with
    | zero =>
      intro i2 X4 hi5 eX4
      obtain rfl : i2 = 12 := by omega
      refine g_iload_n X 1 dX1_flowThroughCracks_2 rfl rfl ?_
      refine g_bipush X (v := nI 12) dX1_flowThroughCracks_3 (by decide +kernel) ?_
      refine g_icN_ge X (a := 12) (b := 12) (tgt := 49) (by omega) (by omega) dX1_flowThroughCracks_5 (by decide) (fun h6 => ?_) (fun h6 => absurd h6 (by omega))
      refine g_iconst X (v := nI 0) dX1_flowThroughCracks_49 (by decide +kernel) ?_
      refine g_istore_n X [(1, .int (nI 0)), (0, .ref (g 0))] dX1_flowThroughCracks_50 rfl (Nat.le_of_ble_eq_true rfl) rfl ?_
      have L7 : ∀ (n9 i8 : Nat) (S10 : St), i8 + n9 = 12 → S10 = itr (crS C X4) S i8 → g_G p l e rm_X1_flowThroughCracks s m args below meth c D A 2 0 0 Q (wG g cI cJ C S10 X4) [(0, .ref (g 0)), (1, .int (nI i8))] 51 [] := by
        intro n9
        induction n9 with
        | zero =>
          intro i8 S10 hi11 eS10
          obtain rfl : i8 = 12 := by omega
          have hz : ∀ b, b < 12 → 0 ≤ (X4 0 b).toInt := fun b hb => by rw [eX4, (ahd_at S Z 12 b hb).1]; exact (hW b hb).1
          refine g_iload_n X 1 dX1_flowThroughCracks_51 rfl rfl ?_
          refine g_bipush X (v := nI 12) dX1_flowThroughCracks_52 (by decide +kernel) ?_
          refine g_icN_ge X (a := 12) (b := 12) (tgt := 117) (by omega) (by omega) dX1_flowThroughCracks_54 (by decide) (fun h12 => ?_) (fun h12 => absurd h12 (by omega))
          refine g_vret X hr hlk hQ dX1_flowThroughCracks_117 ?_
          show g_eq _ _ _ _
          try rw [eS10]
          try rw [eX4]
          refine ⟨rfl, ?_⟩
          rw [crk_eq]
        | succ n9 ihL7 =>
          intro i8 S10 hi11 eS10
          have hlti8 : i8 < 12 := by omega
          have hz : ∀ b, b < 12 → 0 ≤ (X4 0 b).toInt := fun b hb => by rw [eX4, (ahd_at S Z 12 b hb).1]; exact (hW b hb).1
          refine g_iload_n X 1 dX1_flowThroughCracks_51 rfl rfl ?_
          refine g_bipush X (v := nI 12) dX1_flowThroughCracks_52 (by decide +kernel) ?_
          refine g_icN_ge X (a := i8) (b := 12) (tgt := 117) (by omega) (by omega) dX1_flowThroughCracks_54 (by decide) (fun h13 => absurd h13 (by omega)) (fun h13 => ?_)
          refine g_iload_n X 1 dX1_flowThroughCracks_57 rfl rfl ?_
          refine g_iconst X (v := nI 1) dX1_flowThroughCracks_58 (by decide +kernel) ?_
          refine g_iadd X (v := nI (i8 + 1)) dX1_flowThroughCracks_59 ((nI_add _ _).trans (congrArg nI (by omega))) ?_
          refine g_bipush X (v := nI 12) dX1_flowThroughCracks_60 (by decide +kernel) ?_
          have J18 : ∀ (S17 : St), S17 = (if 12 ≤ i8 + 1 then S10 else if (nbr i8 (i8 + 1)) = false then S10 else (fbS S10 X4 i8 (i8 + 1) (C 0 i8))) → g_G p l e rm_X1_flowThroughCracks s m args below meth c D A 2 0 0 Q (wG g cI cJ C S17 X4) [(0, .ref (g 0)), (1, .int (nI i8))] 89 [] := by
            intro S17 eS17
            refine g_iload_n X 1 dX1_flowThroughCracks_89 rfl rfl ?_
            refine g_iconst X (v := nI 4) dX1_flowThroughCracks_90 (by decide +kernel) ?_
            refine g_iadd X (v := nI (i8 + 4)) dX1_flowThroughCracks_91 ((nI_add _ _).trans (congrArg nI (by omega))) ?_
            refine g_bipush X (v := nI 12) dX1_flowThroughCracks_92 (by decide +kernel) ?_
            have J22 : ∀ (S21 : St), S21 = (if 12 ≤ i8 + 4 then S17 else (fbS S17 X4 i8 (i8 + 4) (C 1 i8))) → g_G p l e rm_X1_flowThroughCracks s m args below meth c D A 2 0 0 Q (wG g cI cJ C S21 X4) [(0, .ref (g 0)), (1, .int (nI i8))] 111 [] := by
              intro S21 eS21
              refine g_iinc X [(1, .int (nI (i8 + 1))), (0, .ref (g 0))] (q := 1) (v := nI (i8 + 1)) dX1_flowThroughCracks_111 rfl ((congrArg (fun z => nI (i8) + z) (show Int32.ofInt 1 = nI 1 by decide +kernel)).trans ((nI_add _ _).trans (congrArg nI (by omega)))) (Nat.le_of_ble_eq_true rfl) rfl ?_
              refine g_goto X (tgt := 51) dX1_flowThroughCracks_114 (by decide) ?_
              refine g_lv _ [1, 0] rfl ?_
              exact ihL7 (i8 + 1) _ (by omega) (by (try rw [eS21]); (try rw [eS17]); (try rw [eS10]); first | done | (rfl))
            refine g_icN_ge X (a := i8 + 4) (b := 12) (tgt := 111) (by omega) (by omega) dX1_flowThroughCracks_94 (by decide) (fun h19 => ?_) (fun h19 => ?_)
            · --
              exact J22 _ (by rw [if_pos (c := 12 ≤ i8 + 4) h19])
            · --
              refine g_aload_n X 0 dX1_flowThroughCracks_97 rfl rfl ?_
              refine g_iload_n X 1 dX1_flowThroughCracks_98 rfl rfl ?_
              refine g_iload_n X 1 dX1_flowThroughCracks_99 rfl rfl ?_
              refine g_iconst X (v := nI 4) dX1_flowThroughCracks_100 (by decide +kernel) ?_
              refine g_iadd X (v := nI (i8 + 4)) dX1_flowThroughCracks_101 ((nI_add _ _).trans (congrArg nI (by omega))) ?_
              refine g_aload_n X 0 dX1_flowThroughCracks_102 rfl rfl ?_
              refine g_get X (C := RX1) (T := TX1) (N := 9) (v := .ref (g 6)) inlX1 0 rfl rfl 5 (Nat.le_of_ble_eq_true rfl) kF_X1_28 rfl dX1_flowThroughCracks_103 ?_
              refine g_iload_n X 1 dX1_flowThroughCracks_106 rfl rfl ?_
              refine g_iald X 6 rfl (i8) rfl (by omega) (Nat.le_of_ble_eq_true rfl) (v := C 1 i8) rfl dX1_flowThroughCracks_107 ?_
              obtain ⟨S20, eS20⟩ : ∃ z : St, z = fbS S17 X4 i8 (i8 + 4) (C 1 i8) := ⟨_, rfl⟩
              refine g_callV X (As := [.int (nI i8), .int (nI (i8 + 4)), .int (C 1 i8)]) (rest := []) (m_X1_flowBetween l D cI cJ cZ g C S17 X4 i8 (i8 + 4) (C 1 i8) (by omega) (by omega) (hz _ (by omega)) (hz _ (by omega))) kM_X1_68 kI_yX1_flowBetween kS_yX1_flowBetween kZ_RX1 kC_yX1_flowBetween hV_X1_flowBetween rfl rfl rfl 0 rfl (ci := 1) rfl ⟨Nat.le_of_ble_eq_true rfl, Nat.le_of_ble_eq_true rfl⟩ ⟨Nat.le_of_ble_eq_true rfl, Nat.le_of_ble_eq_true rfl⟩ (Nat.le_of_ble_eq_true rfl) dX1_flowThroughCracks_108 rfl [0, 1, 2, 3, 4, 5, 6, 7, 8, 9] rfl rfl (g_kk1 (w2 := wG g cI cJ C S20 X4) (by rw [eS20]; exact ⟨[0, 1, 2, 3, 4, 5, 6, 7, 8, 9], [], [0, 1, 2, 3, 4, 5, 6, 7, 8, 9], [], rfl, rfl, rfl, rfl, by decide, rfl, rfl⟩) ?_)
              exact J22 _ (by (try rw [eS20]); rw [if_neg (c := 12 ≤ i8 + 4) h19])
          refine g_icN_ge X (a := i8 + 1) (b := 12) (tgt := 89) (by omega) (by omega) dX1_flowThroughCracks_62 (by decide) (fun h14 => ?_) (fun h14 => ?_)
          · --
            exact J18 _ (by rw [if_pos (c := 12 ≤ i8 + 1) h14])
          · --
            refine g_iload_n X 1 dX1_flowThroughCracks_65 rfl rfl ?_
            refine g_iload_n X 1 dX1_flowThroughCracks_66 rfl rfl ?_
            refine g_iconst X (v := nI 1) dX1_flowThroughCracks_67 (by decide +kernel) ?_
            refine g_iadd X (v := nI (i8 + 1)) dX1_flowThroughCracks_68 ((nI_add _ _).trans (congrArg nI (by omega))) ?_
            refine g_callSN X (As := [.int (nI i8), .int (nI (i8 + 1))]) (rest := []) (m_X6_areNeighbours l D cI cJ cZ i8 (i8 + 1) (by omega) (by omega)) 6 rfl kZ_RX6 kC_yX6_areNeighbours hV_X6_areNeighbours.2 kT_yX6_areNeighbours rfl rfl rfl ⟨Nat.le_of_ble_eq_true rfl, Nat.le_of_ble_eq_true rfl⟩ ⟨Nat.le_of_ble_eq_true rfl, Nat.le_of_ble_eq_true rfl⟩ (Nat.le_of_ble_eq_true rfl) dX1_flowThroughCracks_69 rfl [] rfl rfl (g_kk1 (w2 := wG g cI cJ C S10 X4) ⟨[], [0, 1, 2, 3, 4, 5, 6, 7, 8, 9], [0, 1, 2, 3, 4, 5, 6, 7, 8, 9], ([0, 1, 2, 3, 4, 5, 6, 7, 8, 9].filterMap fun i => (wG g cI cJ C S10 X4)[i]?), rfl, rfl, rfl, rfl, by decide, rfl, rfl⟩ ?_)
            refine g_bI_eq X (tgt := 89) dX1_flowThroughCracks_72 (by decide) (fun h15 => ?_) (fun h15 => ?_)
            · --
              exact J18 _ (by rw [if_neg (c := 12 ≤ i8 + 1) h14, if_pos (c := (nbr i8 (i8 + 1)) = false) h15])
            · --
              refine g_aload_n X 0 dX1_flowThroughCracks_75 rfl rfl ?_
              refine g_iload_n X 1 dX1_flowThroughCracks_76 rfl rfl ?_
              refine g_iload_n X 1 dX1_flowThroughCracks_77 rfl rfl ?_
              refine g_iconst X (v := nI 1) dX1_flowThroughCracks_78 (by decide +kernel) ?_
              refine g_iadd X (v := nI (i8 + 1)) dX1_flowThroughCracks_79 ((nI_add _ _).trans (congrArg nI (by omega))) ?_
              refine g_aload_n X 0 dX1_flowThroughCracks_80 rfl rfl ?_
              refine g_get X (C := RX1) (T := TX1) (N := 9) (v := .ref (g 5)) inlX1 0 rfl rfl 4 (Nat.le_of_ble_eq_true rfl) kF_X1_24 rfl dX1_flowThroughCracks_81 ?_
              refine g_iload_n X 1 dX1_flowThroughCracks_84 rfl rfl ?_
              refine g_iald X 5 rfl (i8) rfl (by omega) (Nat.le_of_ble_eq_true rfl) (v := C 0 i8) rfl dX1_flowThroughCracks_85 ?_
              obtain ⟨S16, eS16⟩ : ∃ z : St, z = fbS S10 X4 i8 (i8 + 1) (C 0 i8) := ⟨_, rfl⟩
              refine g_callV X (As := [.int (nI i8), .int (nI (i8 + 1)), .int (C 0 i8)]) (rest := []) (m_X1_flowBetween l D cI cJ cZ g C S10 X4 i8 (i8 + 1) (C 0 i8) (by omega) (by omega) (hz _ (by omega)) (hz _ (by omega))) kM_X1_68 kI_yX1_flowBetween kS_yX1_flowBetween kZ_RX1 kC_yX1_flowBetween hV_X1_flowBetween rfl rfl rfl 0 rfl (ci := 1) rfl ⟨Nat.le_of_ble_eq_true rfl, Nat.le_of_ble_eq_true rfl⟩ ⟨Nat.le_of_ble_eq_true rfl, Nat.le_of_ble_eq_true rfl⟩ (Nat.le_of_ble_eq_true rfl) dX1_flowThroughCracks_86 rfl [0, 1, 2, 3, 4, 5, 6, 7, 8, 9] rfl rfl (g_kk1 (w2 := wG g cI cJ C S16 X4) (by rw [eS16]; exact ⟨[0, 1, 2, 3, 4, 5, 6, 7, 8, 9], [], [0, 1, 2, 3, 4, 5, 6, 7, 8, 9], [], rfl, rfl, rfl, rfl, by decide, rfl, rfl⟩) ?_)
              exact J18 _ (by (try rw [eS16]); rw [if_neg (c := 12 ≤ i8 + 1) h14, if_neg (c := (nbr i8 (i8 + 1)) = false) (by rw [h15]; decide)])
      refine g_lv _ [1, 0] rfl ?_
      exact L7 (12) 0 _ (by omega) (by first | rfl | ((try rw [eX4]); first | done | rfl))
    | succ n3 ihL1 =>
      intro i2 X4 hi5 eX4
      have hlti2 : i2 < 12 := by omega
      refine g_iload_n X 1 dX1_flowThroughCracks_2 rfl rfl ?_
      refine g_bipush X (v := nI 12) dX1_flowThroughCracks_3 (by decide +kernel) ?_
      refine g_icN_ge X (a := i2) (b := 12) (tgt := 49) (by omega) (by omega) dX1_flowThroughCracks_5 (by decide) (fun h23 => absurd h23 (by omega)) (fun h23 => ?_)
      refine g_aload_n X 0 dX1_flowThroughCracks_8 rfl rfl ?_
      refine g_get X (C := RX1) (T := TX1) (N := 9) (v := .ref (g 7)) inlX1 0 rfl rfl 6 (Nat.le_of_ble_eq_true rfl) kF_X1_31 rfl dX1_flowThroughCracks_9 ?_
      refine g_iload_n X 1 dX1_flowThroughCracks_12 rfl rfl ?_
      refine g_aload_n X 0 dX1_flowThroughCracks_13 rfl rfl ?_
      refine g_get X (C := RX1) (T := TX1) (N := 9) (v := .ref (g 1)) inlX1 0 rfl rfl 0 (Nat.le_of_ble_eq_true rfl) kF_X1_9 rfl dX1_flowThroughCracks_14 ?_
      refine g_iload_n X 1 dX1_flowThroughCracks_17 rfl rfl ?_
      refine g_lald X 1 rfl (i2) rfl (by omega) (Nat.le_of_ble_eq_true rfl) (v := S 0 i2) rfl dX1_flowThroughCracks_18 ?_
      obtain ⟨X24, eX24⟩ : ∃ z : St, z = u2 X4 0 i2 (S 0 i2) := ⟨_, rfl⟩
      refine g_last X (ws' := wG g cI cJ C S X24) 7 rfl (i2) rfl (by omega) (Nat.le_of_ble_eq_true rfl) dX1_flowThroughCracks_19 (by rw [eX24]; first | done | (rfl)) ?_
      refine g_aload_n X 0 dX1_flowThroughCracks_20 rfl rfl ?_
      refine g_get X (C := RX1) (T := TX1) (N := 9) (v := .ref (g 8)) inlX1 0 rfl rfl 7 (Nat.le_of_ble_eq_true rfl) kF_X1_34 rfl dX1_flowThroughCracks_21 ?_
      refine g_iload_n X 1 dX1_flowThroughCracks_24 rfl rfl ?_
      refine g_aload_n X 0 dX1_flowThroughCracks_25 rfl rfl ?_
      refine g_iload_n X 1 dX1_flowThroughCracks_26 rfl rfl ?_
      refine g_callV X (As := [.int (nI i2)]) (rest := [.int (nI i2), .ref (g 8)]) (m_X1_degrees l D cI cJ cZ g C S X24 i2 (by omega) (hW.ne (by omega))) kM_X1_50 kI_yX1_degrees kS_yX1_degrees kZ_RX1 kC_yX1_degrees hV_X1_degrees rfl rfl rfl 0 rfl (ci := 1) rfl ⟨Nat.le_of_ble_eq_true rfl, Nat.le_of_ble_eq_true rfl⟩ ⟨Nat.le_of_ble_eq_true rfl, Nat.le_of_ble_eq_true rfl⟩ (Nat.le_of_ble_eq_true rfl) dX1_flowThroughCracks_27 rfl [0, 1, 2, 3, 4, 5, 6, 7, 8, 9] rfl rfl (g_kk1 (w2 := wG g cI cJ C S X24) ⟨[0, 1, 2, 3, 4, 5, 6, 7, 8, 9], [], [0, 1, 2, 3, 4, 5, 6, 7, 8, 9], [], rfl, rfl, rfl, rfl, by decide, rfl, rfl⟩ ?_)
      obtain ⟨X25, eX25⟩ : ∃ z : St, z = u2 X24 1 i2 (deg S i2) := ⟨_, rfl⟩
      refine g_last X (ws' := wG g cI cJ C S X25) 8 rfl (i2) rfl (by omega) (Nat.le_of_ble_eq_true rfl) dX1_flowThroughCracks_30 (by rw [eX25]; first | done | (rfl)) ?_
      refine g_aload_n X 0 dX1_flowThroughCracks_31 rfl rfl ?_
      refine g_get X (C := RX1) (T := TX1) (N := 9) (v := .ref (g 9)) inlX1 0 rfl rfl 8 (Nat.le_of_ble_eq_true rfl) kF_X1_37 rfl dX1_flowThroughCracks_32 ?_
      refine g_iload_n X 1 dX1_flowThroughCracks_35 rfl rfl ?_
      refine g_aload_n X 0 dX1_flowThroughCracks_36 rfl rfl ?_
      refine g_get X (C := RX1) (T := TX1) (N := 9) (v := .ref (g 3)) inlX1 0 rfl rfl 2 (Nat.le_of_ble_eq_true rfl) kF_X1_18 rfl dX1_flowThroughCracks_37 ?_
      refine g_iload_n X 1 dX1_flowThroughCracks_40 rfl rfl ?_
      refine g_lald X 3 rfl (i2) rfl (by omega) (Nat.le_of_ble_eq_true rfl) (v := S 2 i2) rfl dX1_flowThroughCracks_41 ?_
      obtain ⟨X26, eX26⟩ : ∃ z : St, z = u2 X25 2 i2 (S 2 i2) := ⟨_, rfl⟩
      refine g_last X (ws' := wG g cI cJ C S X26) 9 rfl (i2) rfl (by omega) (Nat.le_of_ble_eq_true rfl) dX1_flowThroughCracks_42 (by rw [eX26]; first | done | (rfl)) ?_
      refine g_iinc X [(1, .int (nI (i2 + 1))), (0, .ref (g 0))] (q := 1) (v := nI (i2 + 1)) dX1_flowThroughCracks_43 rfl ((congrArg (fun z => nI (i2) + z) (show Int32.ofInt 1 = nI 1 by decide +kernel)).trans ((nI_add _ _).trans (congrArg nI (by omega)))) (Nat.le_of_ble_eq_true rfl) rfl ?_
      refine g_goto X (tgt := 2) dX1_flowThroughCracks_46 (by decide) ?_
      refine g_lv _ [1, 0] rfl ?_
      exact ihL1 (i2 + 1) _ (by omega) (by (try rw [eX26]); (try rw [eX25]); (try rw [eX24]); (try rw [eX4]); first | done | (rfl))
  refine g_lv _ [1, 0] rfl ?_
  exact L1 (12) 0 _ (by omega) (by first | rfl | (first | done | rfl))
def tellG (S : St) (b w : Nat) : Int64 := if w = 0 then S 0 b else if w = 1 then deg S b else if w = 2 then S 1 b else if w = 3 then S 2 b else if w = 4 then S 3 b else (nI (lig S b)).toInt64

theorem hV_X1_tell : yX1_tell.cls = RX1 ∧ yX1_tell.cls ≠ "java/lang/invoke/MethodHandle" ∧ yX1_tell.cls ≠ "java/lang/invoke/VarHandle" ∧ (parseMethodDescriptor yX1_tell.desc).map (fun d => d.parameters.length) = some 2 := by decide +kernel
abbrev rm_X1_tell : Room := { frames := 1, cells := 0, slots := 0, locals := 23 }
set_option maxRecDepth 100000 in
set_option maxHeartbeats 4000000 in
theorem m_X1_tell (l : Launch) (D : va_G) (cI cJ cZ : ClassId) (g : Nat → Nat) (C : Cf) (S Z : St) (b w : Nat) (hb : b < 12) (hw : w < 6) (hne : ¬ S 0 b + 20000 ≤ 0) : g_Ct l D cI cJ cZ yX1_tell cX1_tell 3 (some .long) rm_X1_tell 0 0 [.ref (g 0), .int (nI b), .int (nI w)] (wG g cI cJ C S Z) (g_eq (some (.long (tellG S b w))) (wG g cI cJ C S Z)) := by
  refine g_body RX1 [(0, .ref (g 0)), (1, .int (nI b)), (2, .int (nI w))] kH_X1 rfl (Nat.le_of_ble_eq_true rfl) rfl ?_
  intro p e s m args below meth c A X hr hlk hmn Q hQ
  refine g_iload_n X 2 dX1_tell_0 rfl rfl ?_
  rcases (show w = 0 ∨ w = 1 ∨ w = 2 ∨ w = 3 ∨ w = 4 ∨ w = 5 by omega) with rfl | rfl | rfl | rfl | rfl | rfl
  · --
    refine g_tsw X (tgt := 36) dX1_tell_1 (by decide +kernel) rfl (by decide) ?_
    refine g_aload_n X 0 dX1_tell_36 rfl rfl ?_
    refine g_get X (C := RX1) (T := TX1) (N := 9) (v := .ref (g 1)) inlX1 0 rfl rfl 0 (Nat.le_of_ble_eq_true rfl) kF_X1_9 rfl dX1_tell_37 ?_
    refine g_iload_n X 1 dX1_tell_40 rfl rfl ?_
    refine g_lald X 1 rfl (b) rfl (by omega) (Nat.le_of_ble_eq_true rfl) (v := S 0 b) rfl dX1_tell_41 ?_
    refine g_lret X hr hlk hQ dX1_tell_42 ?_
    show g_eq _ _ _ _
    exact ⟨rfl, rfl⟩
  · --
    refine g_tsw X (tgt := 43) dX1_tell_1 (by decide +kernel) rfl (by decide) ?_
    refine g_aload_n X 0 dX1_tell_43 rfl rfl ?_
    refine g_iload_n X 1 dX1_tell_44 rfl rfl ?_
    refine g_callV X (As := [.int (nI b)]) (rest := []) (m_X1_degrees l D cI cJ cZ g C S Z b hb hne) kM_X1_50 kI_yX1_degrees kS_yX1_degrees kZ_RX1 kC_yX1_degrees hV_X1_degrees rfl rfl rfl 0 rfl (ci := 1) rfl ⟨Nat.le_of_ble_eq_true rfl, Nat.le_of_ble_eq_true rfl⟩ ⟨Nat.le_of_ble_eq_true rfl, Nat.le_of_ble_eq_true rfl⟩ (Nat.le_of_ble_eq_true rfl) dX1_tell_45 rfl [0, 1, 2, 3, 4, 5, 6, 7, 8, 9] rfl rfl (g_kk1 (w2 := wG g cI cJ C S Z) ⟨[0, 1, 2, 3, 4, 5, 6, 7, 8, 9], [], [0, 1, 2, 3, 4, 5, 6, 7, 8, 9], [], rfl, rfl, rfl, rfl, by decide, rfl, rfl⟩ ?_)
    refine g_lret X hr hlk hQ dX1_tell_48 ?_
    show g_eq _ _ _ _
    exact ⟨rfl, rfl⟩
  · --
    refine g_tsw X (tgt := 49) dX1_tell_1 (by decide +kernel) rfl (by decide) ?_
    refine g_aload_n X 0 dX1_tell_49 rfl rfl ?_
    refine g_get X (C := RX1) (T := TX1) (N := 9) (v := .ref (g 2)) inlX1 0 rfl rfl 1 (Nat.le_of_ble_eq_true rfl) kF_X1_15 rfl dX1_tell_50 ?_
    refine g_iload_n X 1 dX1_tell_53 rfl rfl ?_
    refine g_lald X 2 rfl (b) rfl (by omega) (Nat.le_of_ble_eq_true rfl) (v := S 1 b) rfl dX1_tell_54 ?_
    refine g_lret X hr hlk hQ dX1_tell_55 ?_
    show g_eq _ _ _ _
    exact ⟨rfl, rfl⟩
  · --
    refine g_tsw X (tgt := 56) dX1_tell_1 (by decide +kernel) rfl (by decide) ?_
    refine g_aload_n X 0 dX1_tell_56 rfl rfl ?_
    refine g_get X (C := RX1) (T := TX1) (N := 9) (v := .ref (g 3)) inlX1 0 rfl rfl 2 (Nat.le_of_ble_eq_true rfl) kF_X1_18 rfl dX1_tell_57 ?_
    refine g_iload_n X 1 dX1_tell_60 rfl rfl ?_
    refine g_lald X 3 rfl (b) rfl (by omega) (Nat.le_of_ble_eq_true rfl) (v := S 2 b) rfl dX1_tell_61 ?_
    refine g_lret X hr hlk hQ dX1_tell_62 ?_
    show g_eq _ _ _ _
    exact ⟨rfl, rfl⟩
  · --
    refine g_tsw X (tgt := 63) dX1_tell_1 (by decide +kernel) rfl (by decide) ?_
    refine g_aload_n X 0 dX1_tell_63 rfl rfl ?_
    refine g_get X (C := RX1) (T := TX1) (N := 9) (v := .ref (g 4)) inlX1 0 rfl rfl 3 (Nat.le_of_ble_eq_true rfl) kF_X1_21 rfl dX1_tell_64 ?_
    refine g_iload_n X 1 dX1_tell_67 rfl rfl ?_
    refine g_lald X 4 rfl (b) rfl (by omega) (Nat.le_of_ble_eq_true rfl) (v := S 3 b) rfl dX1_tell_68 ?_
    refine g_lret X hr hlk hQ dX1_tell_69 ?_
    show g_eq _ _ _ _
    exact ⟨rfl, rfl⟩
  · --
    refine g_tswO X (tgt := 70) dX1_tell_1 (by decide +kernel) (by decide) ?_
    refine g_aload_n X 0 dX1_tell_70 rfl rfl ?_
    refine g_iload_n X 1 dX1_tell_71 rfl rfl ?_
    refine g_callV X (As := [.int (nI b)]) (rest := []) (m_X1_light l D cI cJ cZ g C S Z b (by omega)) kM_X1_54 kI_yX1_light kS_yX1_light kZ_RX1 kC_yX1_light hV_X1_light rfl rfl rfl 0 rfl (ci := 1) rfl ⟨Nat.le_of_ble_eq_true rfl, Nat.le_of_ble_eq_true rfl⟩ ⟨Nat.le_of_ble_eq_true rfl, Nat.le_of_ble_eq_true rfl⟩ (Nat.le_of_ble_eq_true rfl) dX1_tell_72 rfl [0, 1, 2, 3, 4, 5, 6, 7, 8, 9] rfl rfl (g_kk1 (w2 := wG g cI cJ C S Z) ⟨[0, 1, 2, 3, 4, 5, 6, 7, 8, 9], [], [0, 1, 2, 3, 4, 5, 6, 7, 8, 9], [], rfl, rfl, rfl, rfl, by decide, rfl, rfl⟩ ?_)
    refine g_i2l X (v := (nI (lig S b)).toInt64) dX1_tell_75 rfl ?_
    refine g_lret X hr hlk hQ dX1_tell_76 ?_
    show g_eq _ _ _ _
    exact ⟨rfl, rfl⟩
