/-! the copies -/
def cpR (T : St) (cs : List Nat) (i : Nat) (S : St) : St := match cs with
  | [] => S
  | c :: cs => cpR T cs i (u2 S c i (T c i))
def cpD (B : Cf) (cs : List Nat) (i : Nat) (C : Cf) : Cf := match cs with
  | [] => C
  | c :: cs => cpD B cs i (c2 C c i (B c i))
def cpS (T : St) (cs : List Nat) (S : St) (n : Nat) : St := itr (cpR T cs) S n
def cpC (B : Cf) (cs : List Nat) (C : Cf) (n : Nat) : Cf := itr (cpD B cs) C n
theorem cpR_at (T : St) (i c j : Nat) : ∀ (cs : List Nat) (S : St), cpR T cs i S c j = if c ∈ cs ∧ j = i then T c j else S c j
  | [], S => by
    rw [if_neg (fun z => by simp at z)]
    rfl
  | d :: cs, S => by
    show cpR T cs i (u2 S d i (T d i)) c j = _
    rw [cpR_at T i c j cs, u2_ap]
    by_cases h1 : c ∈ cs ∧ j = i
    · rw [if_pos h1, if_pos ⟨List.mem_cons_of_mem _ h1.1, h1.2⟩]
    · rw [if_neg h1]
      by_cases h2 : c = d ∧ j = i
      · rw [if_pos h2, if_pos ⟨by rw [h2.1]; exact List.mem_cons_self, h2.2⟩, h2.1, h2.2]
      · rw [if_neg h2, if_neg (fun z => (List.mem_cons.mp z.1).elim (fun e => h2 ⟨e, z.2⟩) (fun e => h1 ⟨e, z.2⟩))]
theorem cpD_at (B : Cf) (i c j : Nat) : ∀ (cs : List Nat) (C : Cf), cpD B cs i C c j = if c ∈ cs ∧ j = i then B c j else C c j
  | [], C => by
    rw [if_neg (fun z => by simp at z)]
    rfl
  | d :: cs, C => by
    show cpD B cs i (c2 C d i (B d i)) c j = _
    rw [cpD_at B i c j cs, c2_ap]
    by_cases h1 : c ∈ cs ∧ j = i
    · rw [if_pos h1, if_pos ⟨List.mem_cons_of_mem _ h1.1, h1.2⟩]
    · rw [if_neg h1]
      by_cases h2 : c = d ∧ j = i
      · rw [if_pos h2, if_pos ⟨by rw [h2.1]; exact List.mem_cons_self, h2.2⟩, h2.1, h2.2]
      · rw [if_neg h2, if_neg (fun z => (List.mem_cons.mp z.1).elim (fun e => h2 ⟨e, z.2⟩) (fun e => h1 ⟨e, z.2⟩))]
theorem cpS_at (T : St) (cs : List Nat) (S : St) (c j : Nat) : ∀ n, cpS T cs S n c j = if c ∈ cs ∧ j < n then T c j else S c j
  | 0 => by
    rw [if_neg (fun z => by omega)]
    rfl
  | n + 1 => by
    show cpR T cs n (cpS T cs S n) c j = _
    rw [cpR_at, cpS_at T cs S c j n]
    by_cases h1 : c ∈ cs
    · by_cases h2 : j = n
      · rw [if_pos ⟨h1, h2⟩, if_pos ⟨h1, by omega⟩]
      · rw [if_neg (fun z => h2 z.2)]
        by_cases h3 : j < n
        · rw [if_pos ⟨h1, h3⟩, if_pos ⟨h1, by omega⟩]
        · rw [if_neg (fun z => h3 z.2), if_neg (fun z => by omega)]
    · rw [if_neg (fun z => h1 z.1), if_neg (fun z => h1 z.1), if_neg (fun z => h1 z.1)]
theorem cpC_at (B : Cf) (cs : List Nat) (C : Cf) (c j : Nat) : ∀ n, cpC B cs C n c j = if c ∈ cs ∧ j < n then B c j else C c j
  | 0 => by
    rw [if_neg (fun z => by omega)]
    rfl
  | n + 1 => by
    show cpD B cs n (cpC B cs C n) c j = _
    rw [cpD_at, cpC_at B cs C c j n]
    by_cases h1 : c ∈ cs
    · by_cases h2 : j = n
      · rw [if_pos ⟨h1, h2⟩, if_pos ⟨h1, by omega⟩]
      · rw [if_neg (fun z => h2 z.2)]
        by_cases h3 : j < n
        · rw [if_pos ⟨h1, h3⟩, if_pos ⟨h1, by omega⟩]
        · rw [if_neg (fun z => h3 z.2), if_neg (fun z => by omega)]
    · rw [if_neg (fun z => h1 z.1), if_neg (fun z => h1 z.1), if_neg (fun z => h1 z.1)]
def cpQ (T Q : Nat → Int64) (n : Nat) : Nat → Int64 := itr (fun j Q => vp_updL (vp_updL (vp_updL Q (3 * j + 0) (T (3 * j + 0))) (3 * j + 1) (T (3 * j + 1))) (3 * j + 2) (T (3 * j + 2))) Q n
def wFX (f : Nat → Nat) (cI cJ cZ : ClassId) (gC : Cf) (gS : St) (wC : Cf) (wN : Nat → Nat) (wS' : St) (uC : Cf) (uN : Nat → Nat) (sC : Cf) (sN : Nat → Nat) (sS qS : St) (Qk : Nat → Int64) (hC : Cf) (hS X : St) : va_W := (f 0, .inr (0, [.int (hS 13 0).toInt32, .int (hC 10 0), .ref (f 1), .ref (f 11), .ref (f 20), .ref (f 23), .ref (f 30), .ref (f 34), .long (X 3 0), .long (X 3 1), .long (X 3 2)])) :: (wG (fun i => f (1 + i)) cI cJ gC gS X ++ (wW (fun i => f (11 + i)) cI cJ cZ wC wN wS' ++ (wU (fun i => f (20 + i)) cI uC uN ++ (wS (fun i => f (23 + i)) cI cJ sC sN sS ++ (wQ (fun i => f (30 + i)) cI qS Qk ++ [(f 34, .inl (cJ, 8, .inr (.inl (hS 12))))])))))
theorem vp_01 {x : Int32} (h : x = 0 ∨ x = 1) : vp_nar .boolean x = x := by
  rcases h with h | h <;> rw [h] <;> decide +kernel

theorem hV_X1_copy : yX1_copy.cls = RX1 ∧ yX1_copy.cls ≠ "java/lang/invoke/MethodHandle" ∧ yX1_copy.cls ≠ "java/lang/invoke/VarHandle" ∧ (parseMethodDescriptor yX1_copy.desc).map (fun d => d.parameters.length) = some 1 := by decide +kernel
abbrev rm_X1_copy : Room := { frames := 0, cells := 0, slots := 0, locals := 0 }
set_option maxRecDepth 100000 in
set_option maxHeartbeats 4000000 in
theorem m_X1_copy (l : Launch) (D : va_G) (cI cJ cZ : ClassId) (g o : Nat → Nat) (C : Cf) (S Z : St) (B : Cf) (T V : St)  : g_Ct l D cI cJ cZ yX1_copy cX1_copy 3 none rm_X1_copy 0 0 [.ref (g 0), .ref (o 0)] (wG g cI cJ C S Z ++ wG o cI cJ B T V) (g_eq none (wG g cI cJ (cpC B [0, 1] C 12) (cpS T [0, 1, 2, 3] S 12) Z ++ wG o cI cJ B T V)) := by
  refine g_body RX1 [(0, .ref (g 0)), (1, .ref (o 0))] kH_X1 rfl (Nat.le_of_ble_eq_true rfl) rfl ?_
  intro p e s m args below meth c A X hr hlk hmn Q hQ
  refine g_iconst X (v := nI 0) dX1_copy_0 (by decide +kernel) ?_
  refine g_istore_n X [(2, .int (nI 0)), (0, .ref (g 0)), (1, .ref (o 0))] dX1_copy_1 rfl (Nat.le_of_ble_eq_true rfl) rfl ?_
  have L1 : ∀ (n3 i2 : Nat) (C4 : Cf) (S5 : St), i2 + n3 = 12 → C4 = cpC B [0, 1] C i2 → S5 = cpS T [0, 1, 2, 3] S i2 → g_G p l e rm_X1_copy s m args below meth c D A 3 0 0 Q (wG g cI cJ C4 S5 Z ++ wG o cI cJ B T V) [(0, .ref (g 0)), (1, .ref (o 0)), (2, .int (nI i2))] 2 [] := by
    intro n3
    induction n3 with
    | zero =>
      intro i2 C4 S5 hi6 eC4 eS5
      obtain rfl : i2 = 12 := by omega
      refine g_iload_n X 2 dX1_copy_2 rfl rfl ?_
      refine g_bipush X (v := nI 12) dX1_copy_3 (by decide +kernel) ?_
      refine g_icN_ge X (a := 12) (b := 12) (tgt := 86) (by omega) (by omega) dX1_copy_5 (by decide) (fun h7 => ?_) (fun h7 => absurd h7 (by omega))
      refine g_vret X hr hlk hQ dX1_copy_86 ?_
      show g_eq _ _ _ _
      try rw [eS5]
      try rw [eC4]
      exact ⟨rfl, rfl⟩
    | succ n3 ihL1 =>
      intro i2 C4 S5 hi6 eC4 eS5
      have hlti2 : i2 < 12 := by omega
      refine g_iload_n X 2 dX1_copy_2 rfl rfl ?_
      refine g_bipush X (v := nI 12) dX1_copy_3 (by decide +kernel) ?_
      refine g_icN_ge X (a := i2) (b := 12) (tgt := 86) (by omega) (by omega) dX1_copy_5 (by decide) (fun h8 => absurd h8 (by omega)) (fun h8 => ?_)
      refine g_aload_n X 0 dX1_copy_8 rfl rfl ?_
      refine g_get X (C := RX1) (T := TX1) (N := 9) (v := .ref (g 1)) inlX1 0 rfl rfl 0 (Nat.le_of_ble_eq_true rfl) kF_X1_9 rfl dX1_copy_9 ?_
      refine g_iload_n X 2 dX1_copy_12 rfl rfl ?_
      refine g_aload_n X 1 dX1_copy_13 rfl rfl ?_
      refine g_get X (C := RX1) (T := TX1) (N := 9) (v := .ref (o 1)) inlX1 10 rfl rfl 0 (Nat.le_of_ble_eq_true rfl) kF_X1_9 rfl dX1_copy_14 ?_
      refine g_iload_n X 2 dX1_copy_17 rfl rfl ?_
      refine g_lald X 11 rfl (i2) rfl (by omega) (Nat.le_of_ble_eq_true rfl) (v := T 0 i2) rfl dX1_copy_18 ?_
      obtain ⟨S9, eS9⟩ : ∃ z : St, z = u2 S5 0 i2 (T 0 i2) := ⟨_, rfl⟩
      refine g_last X (ws' := wG g cI cJ C4 S9 Z ++ wG o cI cJ B T V) 1 rfl (i2) rfl (by omega) (Nat.le_of_ble_eq_true rfl) dX1_copy_19 (by rw [eS9]; first | done | (rfl)) ?_
      refine g_aload_n X 0 dX1_copy_20 rfl rfl ?_
      refine g_get X (C := RX1) (T := TX1) (N := 9) (v := .ref (g 2)) inlX1 0 rfl rfl 1 (Nat.le_of_ble_eq_true rfl) kF_X1_15 rfl dX1_copy_21 ?_
      refine g_iload_n X 2 dX1_copy_24 rfl rfl ?_
      refine g_aload_n X 1 dX1_copy_25 rfl rfl ?_
      refine g_get X (C := RX1) (T := TX1) (N := 9) (v := .ref (o 2)) inlX1 10 rfl rfl 1 (Nat.le_of_ble_eq_true rfl) kF_X1_15 rfl dX1_copy_26 ?_
      refine g_iload_n X 2 dX1_copy_29 rfl rfl ?_
      refine g_lald X 12 rfl (i2) rfl (by omega) (Nat.le_of_ble_eq_true rfl) (v := T 1 i2) rfl dX1_copy_30 ?_
      obtain ⟨S10, eS10⟩ : ∃ z : St, z = u2 S9 1 i2 (T 1 i2) := ⟨_, rfl⟩
      refine g_last X (ws' := wG g cI cJ C4 S10 Z ++ wG o cI cJ B T V) 2 rfl (i2) rfl (by omega) (Nat.le_of_ble_eq_true rfl) dX1_copy_31 (by rw [eS10]; first | done | (rfl)) ?_
      refine g_aload_n X 0 dX1_copy_32 rfl rfl ?_
      refine g_get X (C := RX1) (T := TX1) (N := 9) (v := .ref (g 3)) inlX1 0 rfl rfl 2 (Nat.le_of_ble_eq_true rfl) kF_X1_18 rfl dX1_copy_33 ?_
      refine g_iload_n X 2 dX1_copy_36 rfl rfl ?_
      refine g_aload_n X 1 dX1_copy_37 rfl rfl ?_
      refine g_get X (C := RX1) (T := TX1) (N := 9) (v := .ref (o 3)) inlX1 10 rfl rfl 2 (Nat.le_of_ble_eq_true rfl) kF_X1_18 rfl dX1_copy_38 ?_
      refine g_iload_n X 2 dX1_copy_41 rfl rfl ?_
      refine g_lald X 13 rfl (i2) rfl (by omega) (Nat.le_of_ble_eq_true rfl) (v := T 2 i2) rfl dX1_copy_42 ?_
      obtain ⟨S11, eS11⟩ : ∃ z : St, z = u2 S10 2 i2 (T 2 i2) := ⟨_, rfl⟩
      refine g_last X (ws' := wG g cI cJ C4 S11 Z ++ wG o cI cJ B T V) 3 rfl (i2) rfl (by omega) (Nat.le_of_ble_eq_true rfl) dX1_copy_43 (by rw [eS11]; first | done | (rfl)) ?_
      refine g_aload_n X 0 dX1_copy_44 rfl rfl ?_
      refine g_get X (C := RX1) (T := TX1) (N := 9) (v := .ref (g 4)) inlX1 0 rfl rfl 3 (Nat.le_of_ble_eq_true rfl) kF_X1_21 rfl dX1_copy_45 ?_
      refine g_iload_n X 2 dX1_copy_48 rfl rfl ?_
      refine g_aload_n X 1 dX1_copy_49 rfl rfl ?_
      refine g_get X (C := RX1) (T := TX1) (N := 9) (v := .ref (o 4)) inlX1 10 rfl rfl 3 (Nat.le_of_ble_eq_true rfl) kF_X1_21 rfl dX1_copy_50 ?_
      refine g_iload_n X 2 dX1_copy_53 rfl rfl ?_
      refine g_lald X 14 rfl (i2) rfl (by omega) (Nat.le_of_ble_eq_true rfl) (v := T 3 i2) rfl dX1_copy_54 ?_
      obtain ⟨S12, eS12⟩ : ∃ z : St, z = u2 S11 3 i2 (T 3 i2) := ⟨_, rfl⟩
      refine g_last X (ws' := wG g cI cJ C4 S12 Z ++ wG o cI cJ B T V) 4 rfl (i2) rfl (by omega) (Nat.le_of_ble_eq_true rfl) dX1_copy_55 (by rw [eS12]; first | done | (rfl)) ?_
      refine g_aload_n X 0 dX1_copy_56 rfl rfl ?_
      refine g_get X (C := RX1) (T := TX1) (N := 9) (v := .ref (g 5)) inlX1 0 rfl rfl 4 (Nat.le_of_ble_eq_true rfl) kF_X1_24 rfl dX1_copy_57 ?_
      refine g_iload_n X 2 dX1_copy_60 rfl rfl ?_
      refine g_aload_n X 1 dX1_copy_61 rfl rfl ?_
      refine g_get X (C := RX1) (T := TX1) (N := 9) (v := .ref (o 5)) inlX1 10 rfl rfl 4 (Nat.le_of_ble_eq_true rfl) kF_X1_24 rfl dX1_copy_62 ?_
      refine g_iload_n X 2 dX1_copy_65 rfl rfl ?_
      refine g_iald X 15 rfl (i2) rfl (by omega) (Nat.le_of_ble_eq_true rfl) (v := B 0 i2) rfl dX1_copy_66 ?_
      obtain ⟨C13, eC13⟩ : ∃ z : Cf, z = c2 C4 0 i2 (B 0 i2) := ⟨_, rfl⟩
      refine g_iast X (ws' := wG g cI cJ C13 S12 Z ++ wG o cI cJ B T V) 5 rfl (i2) rfl (by omega) (Nat.le_of_ble_eq_true rfl) dX1_copy_67 (by rw [eC13]; first | done | (rfl)) ?_
      refine g_aload_n X 0 dX1_copy_68 rfl rfl ?_
      refine g_get X (C := RX1) (T := TX1) (N := 9) (v := .ref (g 6)) inlX1 0 rfl rfl 5 (Nat.le_of_ble_eq_true rfl) kF_X1_28 rfl dX1_copy_69 ?_
      refine g_iload_n X 2 dX1_copy_72 rfl rfl ?_
      refine g_aload_n X 1 dX1_copy_73 rfl rfl ?_
      refine g_get X (C := RX1) (T := TX1) (N := 9) (v := .ref (o 6)) inlX1 10 rfl rfl 5 (Nat.le_of_ble_eq_true rfl) kF_X1_28 rfl dX1_copy_74 ?_
      refine g_iload_n X 2 dX1_copy_77 rfl rfl ?_
      refine g_iald X 16 rfl (i2) rfl (by omega) (Nat.le_of_ble_eq_true rfl) (v := B 1 i2) rfl dX1_copy_78 ?_
      obtain ⟨C14, eC14⟩ : ∃ z : Cf, z = c2 C13 1 i2 (B 1 i2) := ⟨_, rfl⟩
      refine g_iast X (ws' := wG g cI cJ C14 S12 Z ++ wG o cI cJ B T V) 6 rfl (i2) rfl (by omega) (Nat.le_of_ble_eq_true rfl) dX1_copy_79 (by rw [eC14]; first | done | (rfl)) ?_
      refine g_iinc X [(2, .int (nI (i2 + 1))), (0, .ref (g 0)), (1, .ref (o 0))] (q := 2) (v := nI (i2 + 1)) dX1_copy_80 rfl ((congrArg (fun z => nI (i2) + z) (show Int32.ofInt 1 = nI 1 by decide +kernel)).trans ((nI_add _ _).trans (congrArg nI (by omega)))) (Nat.le_of_ble_eq_true rfl) rfl ?_
      refine g_goto X (tgt := 2) dX1_copy_83 (by decide) ?_
      refine g_lv _ [1, 2, 0] rfl ?_
      exact ihL1 (i2 + 1) _ _ (by omega) (by (try rw [eC14]); (try rw [eC13]); (try rw [eS12]); (try rw [eS11]); (try rw [eS10]); (try rw [eS9]); (try rw [eS5]); (try rw [eC4]); first | done | (rfl)) (by (try rw [eC14]); (try rw [eC13]); (try rw [eS12]); (try rw [eS11]); (try rw [eS10]); (try rw [eS9]); (try rw [eS5]); (try rw [eC4]); first | done | (rfl))
  refine g_lv _ [1, 2, 0] rfl ?_
  exact L1 (12) 0 _ _ (by omega) (by first | rfl | (first | done | rfl)) (by first | rfl | (first | done | rfl))
theorem hV_X5_copy : yX5_copy.cls = RX5 ∧ yX5_copy.cls ≠ "java/lang/invoke/MethodHandle" ∧ yX5_copy.cls ≠ "java/lang/invoke/VarHandle" ∧ (parseMethodDescriptor yX5_copy.desc).map (fun d => d.parameters.length) = some 1 := by decide +kernel
abbrev rm_X5_copy : Room := { frames := 0, cells := 0, slots := 0, locals := 0 }
set_option maxRecDepth 100000 in
set_option maxHeartbeats 4000000 in
theorem m_X5_copy (l : Launch) (D : va_G) (cI cJ cZ : ClassId) (g o : Nat → Nat) (C : Cf) (N : Nat → Nat) (S : St) (B : Cf) (M : Nat → Nat) (T : St) (hM : M 0 ≤ 10) (h3 : ∀ w, w < M 0 → B 3 w = 0 ∨ B 3 w = 1) (h6 : ∀ w, w < M 0 → T 6 w = 0 ∨ T 6 w = 1) : g_Ct l D cI cJ cZ yX5_copy cX5_copy 3 none rm_X5_copy 0 0 [.ref (g 0), .ref (o 0)] (wW g cI cJ cZ C N S ++ wW o cI cJ cZ B M T) (g_eq none (wW g cI cJ cZ (cpC B [2, 3, 4] C (M 0)) (n2 N 0 (M 0)) (cpS T [4, 5, 6, 7, 8] S (M 0)) ++ wW o cI cJ cZ B M T)) := by
  refine g_body RX5 [(0, .ref (g 0)), (1, .ref (o 0))] kH_X5 rfl (Nat.le_of_ble_eq_true rfl) rfl ?_
  intro p e s m args below meth c A X hr hlk hmn Q hQ
  refine g_aload_n X 0 dX5_copy_0 rfl rfl ?_
  refine g_aload_n X 1 dX5_copy_1 rfl rfl ?_
  refine g_get X (C := RX5) (T := TX5) (N := 9) (v := .int (nI (M 0))) inlX5 9 rfl rfl 0 (Nat.le_of_ble_eq_true rfl) kF_X5_9 rfl dX5_copy_2 ?_
  obtain ⟨N1, eN1⟩ : ∃ z : Nat → Nat, z = n2 N 0 (M 0) := ⟨_, rfl⟩
  refine g_put X (C := RX5) (T := TX5) (N := 9) (ws' := wW g cI cJ cZ C N1 S ++ wW o cI cJ cZ B M T) inlX5 tyX5 tyX5_ok nmX5 0 rfl rfl 0 (Nat.le_of_ble_eq_true rfl) kF_X5_9 rfl rfl rfl (Nat.le_of_ble_eq_true rfl) dX5_copy_5 (by rw [eN1]; first | done | (rfl)) ?_
  refine g_iconst X (v := nI 0) dX5_copy_8 (by decide +kernel) ?_
  refine g_istore_n X [(2, .int (nI 0)), (0, .ref (g 0)), (1, .ref (o 0))] dX5_copy_9 rfl (Nat.le_of_ble_eq_true rfl) rfl ?_
  have L2 : ∀ (n4 i3 : Nat) (C5 : Cf) (S6 : St), i3 + n4 = (M 0) → C5 = cpC B [2, 3, 4] C i3 → S6 = cpS T [4, 5, 6, 7, 8] S i3 → g_G p l e rm_X5_copy s m args below meth c D A 3 0 0 Q (wW g cI cJ cZ C5 N1 S6 ++ wW o cI cJ cZ B M T) [(0, .ref (g 0)), (1, .ref (o 0)), (2, .int (nI i3))] 10 [] := by
    intro n4
    induction n4 with
    | zero =>
      intro i3 C5 S6 hi7 eC5 eS6
      obtain rfl : i3 = (M 0) := by omega
      refine g_iload_n X 2 dX5_copy_10 rfl rfl ?_
      refine g_aload_n X 0 dX5_copy_11 rfl rfl ?_
      refine g_get X (C := RX5) (T := TX5) (N := 9) (v := .int (nI (M 0))) inlX5 0 rfl rfl 0 (Nat.le_of_ble_eq_true rfl) kF_X5_9 (by rw [eN1]; rfl) dX5_copy_12 ?_
      refine g_icN_ge X (a := (M 0)) (b := (M 0)) (tgt := 120) (by omega) (by omega) dX5_copy_15 (by decide) (fun h8 => ?_) (fun h8 => absurd h8 (by omega))
      refine g_vret X hr hlk hQ dX5_copy_120 ?_
      show g_eq _ _ _ _
      try rw [eS6]
      try rw [eC5]
      try rw [eN1]
      exact ⟨rfl, rfl⟩
    | succ n4 ihL2 =>
      intro i3 C5 S6 hi7 eC5 eS6
      have hlti3 : i3 < (M 0) := by omega
      have h3i := h3 i3 hlti3
      have h6i : (T 6 i3).toInt32 = 0 ∨ (T 6 i3).toInt32 = 1 := by rcases h6 i3 hlti3 with z | z <;> rw [z] <;> decide
      refine g_iload_n X 2 dX5_copy_10 rfl rfl ?_
      refine g_aload_n X 0 dX5_copy_11 rfl rfl ?_
      refine g_get X (C := RX5) (T := TX5) (N := 9) (v := .int (nI (M 0))) inlX5 0 rfl rfl 0 (Nat.le_of_ble_eq_true rfl) kF_X5_9 (by rw [eN1]; rfl) dX5_copy_12 ?_
      refine g_icN_ge X (a := i3) (b := (M 0)) (tgt := 120) (by omega) (by omega) dX5_copy_15 (by decide) (fun h9 => absurd h9 (by omega)) (fun h9 => ?_)
      refine g_aload_n X 0 dX5_copy_18 rfl rfl ?_
      refine g_get X (C := RX5) (T := TX5) (N := 9) (v := .ref (g 1)) inlX5 0 rfl rfl 1 (Nat.le_of_ble_eq_true rfl) kF_X5_15 rfl dX5_copy_19 ?_
      refine g_iload_n X 2 dX5_copy_22 rfl rfl ?_
      refine g_aload_n X 1 dX5_copy_23 rfl rfl ?_
      refine g_get X (C := RX5) (T := TX5) (N := 9) (v := .ref (o 1)) inlX5 9 rfl rfl 1 (Nat.le_of_ble_eq_true rfl) kF_X5_15 rfl dX5_copy_24 ?_
      refine g_iload_n X 2 dX5_copy_27 rfl rfl ?_
      refine g_iald X 10 rfl (i3) rfl (by omega) (Nat.le_of_ble_eq_true rfl) (v := B 2 i3) rfl dX5_copy_28 ?_
      obtain ⟨C10, eC10⟩ : ∃ z : Cf, z = c2 C5 2 i3 (B 2 i3) := ⟨_, rfl⟩
      refine g_iast X (ws' := wW g cI cJ cZ C10 N1 S6 ++ wW o cI cJ cZ B M T) 1 rfl (i3) rfl (by omega) (Nat.le_of_ble_eq_true rfl) dX5_copy_29 (by rw [eC10]; first | done | (rfl)) ?_
      refine g_aload_n X 0 dX5_copy_30 rfl rfl ?_
      refine g_get X (C := RX5) (T := TX5) (N := 9) (v := .ref (g 2)) inlX5 0 rfl rfl 2 (Nat.le_of_ble_eq_true rfl) kF_X5_19 rfl dX5_copy_31 ?_
      refine g_iload_n X 2 dX5_copy_34 rfl rfl ?_
      refine g_aload_n X 1 dX5_copy_35 rfl rfl ?_
      refine g_get X (C := RX5) (T := TX5) (N := 9) (v := .ref (o 2)) inlX5 9 rfl rfl 2 (Nat.le_of_ble_eq_true rfl) kF_X5_19 rfl dX5_copy_36 ?_
      refine g_iload_n X 2 dX5_copy_39 rfl rfl ?_
      refine g_zald X 11 rfl (i3) rfl (by omega) (Nat.le_of_ble_eq_true rfl) (v := B 3 i3) rfl dX5_copy_40 ?_
      obtain ⟨C11, eC11⟩ : ∃ z : Cf, z = c2 C10 3 i3 (B 3 i3) := ⟨_, rfl⟩
      refine g_zast X (ws' := wW g cI cJ cZ C11 N1 S6 ++ wW o cI cJ cZ B M T) 2 rfl (i3) rfl (by omega) (Nat.le_of_ble_eq_true rfl) dX5_copy_41 (by rw [eC11]; first | done | (rw [vp_01 h3i]; rfl)) ?_
      refine g_aload_n X 0 dX5_copy_42 rfl rfl ?_
      refine g_get X (C := RX5) (T := TX5) (N := 9) (v := .ref (g 3)) inlX5 0 rfl rfl 3 (Nat.le_of_ble_eq_true rfl) kF_X5_23 rfl dX5_copy_43 ?_
      refine g_iload_n X 2 dX5_copy_46 rfl rfl ?_
      refine g_aload_n X 1 dX5_copy_47 rfl rfl ?_
      refine g_get X (C := RX5) (T := TX5) (N := 9) (v := .ref (o 3)) inlX5 9 rfl rfl 3 (Nat.le_of_ble_eq_true rfl) kF_X5_23 rfl dX5_copy_48 ?_
      refine g_iload_n X 2 dX5_copy_51 rfl rfl ?_
      refine g_iald X 12 rfl (i3) rfl (by omega) (Nat.le_of_ble_eq_true rfl) (v := B 4 i3) rfl dX5_copy_52 ?_
      obtain ⟨C12, eC12⟩ : ∃ z : Cf, z = c2 C11 4 i3 (B 4 i3) := ⟨_, rfl⟩
      refine g_iast X (ws' := wW g cI cJ cZ C12 N1 S6 ++ wW o cI cJ cZ B M T) 3 rfl (i3) rfl (by omega) (Nat.le_of_ble_eq_true rfl) dX5_copy_53 (by rw [eC12]; first | done | (rfl)) ?_
      refine g_aload_n X 0 dX5_copy_54 rfl rfl ?_
      refine g_get X (C := RX5) (T := TX5) (N := 9) (v := .ref (g 4)) inlX5 0 rfl rfl 4 (Nat.le_of_ble_eq_true rfl) kF_X5_26 rfl dX5_copy_55 ?_
      refine g_iload_n X 2 dX5_copy_58 rfl rfl ?_
      refine g_aload_n X 1 dX5_copy_59 rfl rfl ?_
      refine g_get X (C := RX5) (T := TX5) (N := 9) (v := .ref (o 4)) inlX5 9 rfl rfl 4 (Nat.le_of_ble_eq_true rfl) kF_X5_26 rfl dX5_copy_60 ?_
      refine g_iload_n X 2 dX5_copy_63 rfl rfl ?_
      refine g_iald X 13 rfl (i3) rfl (by omega) (Nat.le_of_ble_eq_true rfl) (v := (T 4 i3).toInt32) rfl dX5_copy_64 ?_
      obtain ⟨S13, eS13⟩ : ∃ z : St, z = u2 S6 4 i3 (T 4 i3) := ⟨_, rfl⟩
      refine g_iast X (ws' := wW g cI cJ cZ C12 N1 S13 ++ wW o cI cJ cZ B M T) 4 rfl (i3) rfl (by omega) (Nat.le_of_ble_eq_true rfl) dX5_copy_65 (by rw [eS13]; first | done | (rw [i32_updV _ _ (v := T 4 i3) rfl]; rfl)) ?_
      refine g_aload_n X 0 dX5_copy_66 rfl rfl ?_
      refine g_get X (C := RX5) (T := TX5) (N := 9) (v := .ref (g 5)) inlX5 0 rfl rfl 5 (Nat.le_of_ble_eq_true rfl) kF_X5_29 rfl dX5_copy_67 ?_
      refine g_iload_n X 2 dX5_copy_70 rfl rfl ?_
      refine g_aload_n X 1 dX5_copy_71 rfl rfl ?_
      refine g_get X (C := RX5) (T := TX5) (N := 9) (v := .ref (o 5)) inlX5 9 rfl rfl 5 (Nat.le_of_ble_eq_true rfl) kF_X5_29 rfl dX5_copy_72 ?_
      refine g_iload_n X 2 dX5_copy_75 rfl rfl ?_
      refine g_lald X 14 rfl (i3) rfl (by omega) (Nat.le_of_ble_eq_true rfl) (v := T 5 i3) rfl dX5_copy_76 ?_
      obtain ⟨S14, eS14⟩ : ∃ z : St, z = u2 S13 5 i3 (T 5 i3) := ⟨_, rfl⟩
      refine g_last X (ws' := wW g cI cJ cZ C12 N1 S14 ++ wW o cI cJ cZ B M T) 5 rfl (i3) rfl (by omega) (Nat.le_of_ble_eq_true rfl) dX5_copy_77 (by rw [eS14]; first | done | (rfl)) ?_
      refine g_aload_n X 0 dX5_copy_78 rfl rfl ?_
      refine g_get X (C := RX5) (T := TX5) (N := 9) (v := .ref (g 6)) inlX5 0 rfl rfl 6 (Nat.le_of_ble_eq_true rfl) kF_X5_33 rfl dX5_copy_79 ?_
      refine g_iload_n X 2 dX5_copy_82 rfl rfl ?_
      refine g_aload_n X 1 dX5_copy_83 rfl rfl ?_
      refine g_get X (C := RX5) (T := TX5) (N := 9) (v := .ref (o 6)) inlX5 9 rfl rfl 6 (Nat.le_of_ble_eq_true rfl) kF_X5_33 rfl dX5_copy_84 ?_
      refine g_iload_n X 2 dX5_copy_87 rfl rfl ?_
      refine g_zald X 15 rfl (i3) rfl (by omega) (Nat.le_of_ble_eq_true rfl) (v := (T 6 i3).toInt32) rfl dX5_copy_88 ?_
      obtain ⟨S15, eS15⟩ : ∃ z : St, z = u2 S14 6 i3 (T 6 i3) := ⟨_, rfl⟩
      refine g_zast X (ws' := wW g cI cJ cZ C12 N1 S15 ++ wW o cI cJ cZ B M T) 6 rfl (i3) rfl (by omega) (Nat.le_of_ble_eq_true rfl) dX5_copy_89 (by rw [eS15]; first | done | (rw [vp_01 h6i]; rw [i32_updV _ _ (v := T 6 i3) rfl]; rfl)) ?_
      refine g_aload_n X 0 dX5_copy_90 rfl rfl ?_
      refine g_get X (C := RX5) (T := TX5) (N := 9) (v := .ref (g 7)) inlX5 0 rfl rfl 7 (Nat.le_of_ble_eq_true rfl) kF_X5_36 rfl dX5_copy_91 ?_
      refine g_iload_n X 2 dX5_copy_94 rfl rfl ?_
      refine g_aload_n X 1 dX5_copy_95 rfl rfl ?_
      refine g_get X (C := RX5) (T := TX5) (N := 9) (v := .ref (o 7)) inlX5 9 rfl rfl 7 (Nat.le_of_ble_eq_true rfl) kF_X5_36 rfl dX5_copy_96 ?_
      refine g_iload_n X 2 dX5_copy_99 rfl rfl ?_
      refine g_lald X 16 rfl (i3) rfl (by omega) (Nat.le_of_ble_eq_true rfl) (v := T 7 i3) rfl dX5_copy_100 ?_
      obtain ⟨S16, eS16⟩ : ∃ z : St, z = u2 S15 7 i3 (T 7 i3) := ⟨_, rfl⟩
      refine g_last X (ws' := wW g cI cJ cZ C12 N1 S16 ++ wW o cI cJ cZ B M T) 7 rfl (i3) rfl (by omega) (Nat.le_of_ble_eq_true rfl) dX5_copy_101 (by rw [eS16]; first | done | (rfl)) ?_
      refine g_aload_n X 0 dX5_copy_102 rfl rfl ?_
      refine g_get X (C := RX5) (T := TX5) (N := 9) (v := .ref (g 8)) inlX5 0 rfl rfl 8 (Nat.le_of_ble_eq_true rfl) kF_X5_39 rfl dX5_copy_103 ?_
      refine g_iload_n X 2 dX5_copy_106 rfl rfl ?_
      refine g_aload_n X 1 dX5_copy_107 rfl rfl ?_
      refine g_get X (C := RX5) (T := TX5) (N := 9) (v := .ref (o 8)) inlX5 9 rfl rfl 8 (Nat.le_of_ble_eq_true rfl) kF_X5_39 rfl dX5_copy_108 ?_
      refine g_iload_n X 2 dX5_copy_111 rfl rfl ?_
      refine g_iald X 17 rfl (i3) rfl (by omega) (Nat.le_of_ble_eq_true rfl) (v := (T 8 i3).toInt32) rfl dX5_copy_112 ?_
      obtain ⟨S17, eS17⟩ : ∃ z : St, z = u2 S16 8 i3 (T 8 i3) := ⟨_, rfl⟩
      refine g_iast X (ws' := wW g cI cJ cZ C12 N1 S17 ++ wW o cI cJ cZ B M T) 8 rfl (i3) rfl (by omega) (Nat.le_of_ble_eq_true rfl) dX5_copy_113 (by rw [eS17]; first | done | (rw [i32_updV _ _ (v := T 8 i3) rfl]; rfl)) ?_
      refine g_iinc X [(2, .int (nI (i3 + 1))), (0, .ref (g 0)), (1, .ref (o 0))] (q := 2) (v := nI (i3 + 1)) dX5_copy_114 rfl ((congrArg (fun z => nI (i3) + z) (show Int32.ofInt 1 = nI 1 by decide +kernel)).trans ((nI_add _ _).trans (congrArg nI (by omega)))) (Nat.le_of_ble_eq_true rfl) rfl ?_
      refine g_goto X (tgt := 10) dX5_copy_117 (by decide) ?_
      refine g_lv _ [1, 2, 0] rfl ?_
      exact ihL2 (i3 + 1) _ _ (by omega) (by (try rw [eS17]); (try rw [eS16]); (try rw [eS15]); (try rw [eS14]); (try rw [eS13]); (try rw [eC12]); (try rw [eC11]); (try rw [eC10]); (try rw [eS6]); (try rw [eC5]); first | done | (rfl)) (by (try rw [eS17]); (try rw [eS16]); (try rw [eS15]); (try rw [eS14]); (try rw [eS13]); (try rw [eC12]); (try rw [eC11]); (try rw [eC10]); (try rw [eS6]); (try rw [eC5]); first | done | (rfl))
  refine g_lv _ [1, 2, 0] rfl ?_
  exact L2 ((M 0)) 0 _ _ (by omega) (by first | rfl | ((try rw [eN1]); first | done | rfl)) (by first | rfl | ((try rw [eN1]); first | done | rfl))
theorem hV_X4_copy : yX4_copy.cls = RX4 ∧ yX4_copy.cls ≠ "java/lang/invoke/MethodHandle" ∧ yX4_copy.cls ≠ "java/lang/invoke/VarHandle" ∧ (parseMethodDescriptor yX4_copy.desc).map (fun d => d.parameters.length) = some 1 := by decide +kernel
abbrev rm_X4_copy : Room := { frames := 0, cells := 0, slots := 0, locals := 0 }
set_option maxRecDepth 100000 in
set_option maxHeartbeats 4000000 in
theorem m_X4_copy (l : Launch) (D : va_G) (cI cJ cZ : ClassId) (g o : Nat → Nat) (C : Cf) (N : Nat → Nat) (B : Cf) (M : Nat → Nat) (hM : M 1 ≤ 6) : g_Ct l D cI cJ cZ yX4_copy cX4_copy 3 none rm_X4_copy 0 0 [.ref (g 0), .ref (o 0)] (wU g cI C N ++ wU o cI B M) (g_eq none (wU g cI (cpC B [5, 6] C (M 1)) (n2 N 1 (M 1)) ++ wU o cI B M)) := by
  refine g_body RX4 [(0, .ref (g 0)), (1, .ref (o 0))] kH_X4 rfl (Nat.le_of_ble_eq_true rfl) rfl ?_
  intro p e s m args below meth c A X hr hlk hmn Q hQ
  refine g_aload_n X 0 dX4_copy_0 rfl rfl ?_
  refine g_aload_n X 1 dX4_copy_1 rfl rfl ?_
  refine g_get X (C := RX4) (T := TX4) (N := 3) (v := .int (nI (M 1))) inlX4 3 rfl rfl 0 (Nat.le_of_ble_eq_true rfl) kF_X4_9 rfl dX4_copy_2 ?_
  obtain ⟨N1, eN1⟩ : ∃ z : Nat → Nat, z = n2 N 1 (M 1) := ⟨_, rfl⟩
  refine g_put X (C := RX4) (T := TX4) (N := 3) (ws' := wU g cI C N1 ++ wU o cI B M) inlX4 tyX4 tyX4_ok nmX4 0 rfl rfl 0 (Nat.le_of_ble_eq_true rfl) kF_X4_9 rfl rfl rfl (Nat.le_of_ble_eq_true rfl) dX4_copy_5 (by rw [eN1]; first | done | (rfl)) ?_
  refine g_iconst X (v := nI 0) dX4_copy_8 (by decide +kernel) ?_
  refine g_istore_n X [(2, .int (nI 0)), (0, .ref (g 0)), (1, .ref (o 0))] dX4_copy_9 rfl (Nat.le_of_ble_eq_true rfl) rfl ?_
  have L2 : ∀ (n4 i3 : Nat) (C5 : Cf), i3 + n4 = (M 1) → C5 = cpC B [5, 6] C i3 → g_G p l e rm_X4_copy s m args below meth c D A 3 0 0 Q (wU g cI C5 N1 ++ wU o cI B M) [(0, .ref (g 0)), (1, .ref (o 0)), (2, .int (nI i3))] 10 [] := by
    intro n4
    induction n4 with
    | zero =>
      intro i3 C5 hi6 eC5
      obtain rfl : i3 = (M 1) := by omega
      refine g_iload_n X 2 dX4_copy_10 rfl rfl ?_
      refine g_aload_n X 0 dX4_copy_11 rfl rfl ?_
      refine g_get X (C := RX4) (T := TX4) (N := 3) (v := .int (nI (M 1))) inlX4 0 rfl rfl 0 (Nat.le_of_ble_eq_true rfl) kF_X4_9 (by rw [eN1]; rfl) dX4_copy_12 ?_
      refine g_icN_ge X (a := (M 1)) (b := (M 1)) (tgt := 48) (by omega) (by omega) dX4_copy_15 (by decide) (fun h7 => ?_) (fun h7 => absurd h7 (by omega))
      refine g_vret X hr hlk hQ dX4_copy_48 ?_
      show g_eq _ _ _ _
      try rw [eC5]
      try rw [eN1]
      exact ⟨rfl, rfl⟩
    | succ n4 ihL2 =>
      intro i3 C5 hi6 eC5
      have hlti3 : i3 < (M 1) := by omega
      refine g_iload_n X 2 dX4_copy_10 rfl rfl ?_
      refine g_aload_n X 0 dX4_copy_11 rfl rfl ?_
      refine g_get X (C := RX4) (T := TX4) (N := 3) (v := .int (nI (M 1))) inlX4 0 rfl rfl 0 (Nat.le_of_ble_eq_true rfl) kF_X4_9 (by rw [eN1]; rfl) dX4_copy_12 ?_
      refine g_icN_ge X (a := i3) (b := (M 1)) (tgt := 48) (by omega) (by omega) dX4_copy_15 (by decide) (fun h8 => absurd h8 (by omega)) (fun h8 => ?_)
      refine g_aload_n X 0 dX4_copy_18 rfl rfl ?_
      refine g_get X (C := RX4) (T := TX4) (N := 3) (v := .ref (g 1)) inlX4 0 rfl rfl 1 (Nat.le_of_ble_eq_true rfl) kF_X4_15 rfl dX4_copy_19 ?_
      refine g_iload_n X 2 dX4_copy_22 rfl rfl ?_
      refine g_aload_n X 1 dX4_copy_23 rfl rfl ?_
      refine g_get X (C := RX4) (T := TX4) (N := 3) (v := .ref (o 1)) inlX4 3 rfl rfl 1 (Nat.le_of_ble_eq_true rfl) kF_X4_15 rfl dX4_copy_24 ?_
      refine g_iload_n X 2 dX4_copy_27 rfl rfl ?_
      refine g_iald X 4 rfl (i3) rfl (by omega) (Nat.le_of_ble_eq_true rfl) (v := B 5 i3) rfl dX4_copy_28 ?_
      obtain ⟨C9, eC9⟩ : ∃ z : Cf, z = c2 C5 5 i3 (B 5 i3) := ⟨_, rfl⟩
      refine g_iast X (ws' := wU g cI C9 N1 ++ wU o cI B M) 1 rfl (i3) rfl (by omega) (Nat.le_of_ble_eq_true rfl) dX4_copy_29 (by rw [eC9]; first | done | (rfl)) ?_
      refine g_aload_n X 0 dX4_copy_30 rfl rfl ?_
      refine g_get X (C := RX4) (T := TX4) (N := 3) (v := .ref (g 2)) inlX4 0 rfl rfl 2 (Nat.le_of_ble_eq_true rfl) kF_X4_19 rfl dX4_copy_31 ?_
      refine g_iload_n X 2 dX4_copy_34 rfl rfl ?_
      refine g_aload_n X 1 dX4_copy_35 rfl rfl ?_
      refine g_get X (C := RX4) (T := TX4) (N := 3) (v := .ref (o 2)) inlX4 3 rfl rfl 2 (Nat.le_of_ble_eq_true rfl) kF_X4_19 rfl dX4_copy_36 ?_
      refine g_iload_n X 2 dX4_copy_39 rfl rfl ?_
      refine g_iald X 5 rfl (i3) rfl (by omega) (Nat.le_of_ble_eq_true rfl) (v := B 6 i3) rfl dX4_copy_40 ?_
      obtain ⟨C10, eC10⟩ : ∃ z : Cf, z = c2 C9 6 i3 (B 6 i3) := ⟨_, rfl⟩
      refine g_iast X (ws' := wU g cI C10 N1 ++ wU o cI B M) 2 rfl (i3) rfl (by omega) (Nat.le_of_ble_eq_true rfl) dX4_copy_41 (by rw [eC10]; first | done | (rfl)) ?_
      refine g_iinc X [(2, .int (nI (i3 + 1))), (0, .ref (g 0)), (1, .ref (o 0))] (q := 2) (v := nI (i3 + 1)) dX4_copy_42 rfl ((congrArg (fun z => nI (i3) + z) (show Int32.ofInt 1 = nI 1 by decide +kernel)).trans ((nI_add _ _).trans (congrArg nI (by omega)))) (Nat.le_of_ble_eq_true rfl) rfl ?_
      refine g_goto X (tgt := 10) dX4_copy_45 (by decide) ?_
      refine g_lv _ [1, 2, 0] rfl ?_
      exact ihL2 (i3 + 1) _ (by omega) (by (try rw [eC10]); (try rw [eC9]); (try rw [eC5]); first | done | (rfl))
  refine g_lv _ [1, 2, 0] rfl ?_
  exact L2 ((M 1)) 0 _ (by omega) (by first | rfl | ((try rw [eN1]); first | done | rfl))
theorem hV_X3_copy : yX3_copy.cls = RX3 ∧ yX3_copy.cls ≠ "java/lang/invoke/MethodHandle" ∧ yX3_copy.cls ≠ "java/lang/invoke/VarHandle" ∧ (parseMethodDescriptor yX3_copy.desc).map (fun d => d.parameters.length) = some 1 := by decide +kernel
abbrev rm_X3_copy : Room := { frames := 0, cells := 0, slots := 0, locals := 0 }
set_option maxRecDepth 100000 in
set_option maxHeartbeats 4000000 in
theorem m_X3_copy (l : Launch) (D : va_G) (cI cJ cZ : ClassId) (g o : Nat → Nat) (C : Cf) (N : Nat → Nat) (S : St) (B : Cf) (M : Nat → Nat) (T : St) (hM : M 2 ≤ 4) : g_Ct l D cI cJ cZ yX3_copy cX3_copy 3 none rm_X3_copy 0 0 [.ref (g 0), .ref (o 0)] (wS g cI cJ C N S ++ wS o cI cJ B M T) (g_eq none (wS g cI cJ (cpC B [7, 8, 9] C (M 2)) (n2 N 2 (M 2)) (cpS T [11] (cpS T [9, 10] S (M 2)) (10 * M 2)) ++ wS o cI cJ B M T)) := by
  refine g_body RX3 [(0, .ref (g 0)), (1, .ref (o 0))] kH_X3 rfl (Nat.le_of_ble_eq_true rfl) rfl ?_
  intro p e s m args below meth c A X hr hlk hmn Q hQ
  refine g_aload_n X 0 dX3_copy_0 rfl rfl ?_
  refine g_aload_n X 1 dX3_copy_1 rfl rfl ?_
  refine g_get X (C := RX3) (T := TX3) (N := 7) (v := .int (nI (M 2))) inlX3 7 rfl rfl 0 (Nat.le_of_ble_eq_true rfl) kF_X3_9 rfl dX3_copy_2 ?_
  obtain ⟨N1, eN1⟩ : ∃ z : Nat → Nat, z = n2 N 2 (M 2) := ⟨_, rfl⟩
  refine g_put X (C := RX3) (T := TX3) (N := 7) (ws' := wS g cI cJ C N1 S ++ wS o cI cJ B M T) inlX3 tyX3 tyX3_ok nmX3 0 rfl rfl 0 (Nat.le_of_ble_eq_true rfl) kF_X3_9 rfl rfl rfl (Nat.le_of_ble_eq_true rfl) dX3_copy_5 (by rw [eN1]; first | done | (rfl)) ?_
  refine g_iconst X (v := nI 0) dX3_copy_8 (by decide +kernel) ?_
  refine g_istore_n X [(2, .int (nI 0)), (0, .ref (g 0)), (1, .ref (o 0))] dX3_copy_9 rfl (Nat.le_of_ble_eq_true rfl) rfl ?_
  have L2 : ∀ (n4 i3 : Nat) (C5 : Cf) (S6 : St), i3 + n4 = (M 2) → C5 = cpC B [7, 8, 9] C i3 → S6 = cpS T [9, 10] S i3 → g_G p l e rm_X3_copy s m args below meth c D A 3 0 0 Q (wS g cI cJ C5 N1 S6 ++ wS o cI cJ B M T) [(0, .ref (g 0)), (1, .ref (o 0)), (2, .int (nI i3))] 10 [] := by
    intro n4
    induction n4 with
    | zero =>
      intro i3 C5 S6 hi7 eC5 eS6
      obtain rfl : i3 = (M 2) := by omega
      refine g_iload_n X 2 dX3_copy_10 rfl rfl ?_
      refine g_aload_n X 0 dX3_copy_11 rfl rfl ?_
      refine g_get X (C := RX3) (T := TX3) (N := 7) (v := .int (nI (M 2))) inlX3 0 rfl rfl 0 (Nat.le_of_ble_eq_true rfl) kF_X3_9 (by rw [eN1]; rfl) dX3_copy_12 ?_
      refine g_icN_ge X (a := (M 2)) (b := (M 2)) (tgt := 84) (by omega) (by omega) dX3_copy_15 (by decide) (fun h8 => ?_) (fun h8 => absurd h8 (by omega))
      refine g_iconst X (v := nI 0) dX3_copy_84 (by decide +kernel) ?_
      refine g_istore_n X [(2, .int (nI 0)), (0, .ref (g 0)), (1, .ref (o 0))] dX3_copy_85 rfl (Nat.le_of_ble_eq_true rfl) rfl ?_
      have L9 : ∀ (n11 i10 : Nat) (S12 : St), i10 + n11 = (10 * (M 2)) → S12 = cpS T [11] S6 i10 → g_G p l e rm_X3_copy s m args below meth c D A 3 0 0 Q (wS g cI cJ C5 N1 S12 ++ wS o cI cJ B M T) [(0, .ref (g 0)), (1, .ref (o 0)), (2, .int (nI i10))] 86 [] := by
        intro n11
        induction n11 with
        | zero =>
          intro i10 S12 hi13 eS12
          obtain rfl : i10 = (10 * (M 2)) := by omega
          refine g_iload_n X 2 dX3_copy_86 rfl rfl ?_
          refine g_aload_n X 0 dX3_copy_87 rfl rfl ?_
          refine g_get X (C := RX3) (T := TX3) (N := 7) (v := .int (nI (M 2))) inlX3 0 rfl rfl 0 (Nat.le_of_ble_eq_true rfl) kF_X3_9 (by rw [eN1]; rfl) dX3_copy_88 ?_
          refine g_bipush X (v := nI 10) dX3_copy_91 (by decide +kernel) ?_
          refine g_imul X (v := nI (10 * (M 2))) dX3_copy_93 ((pk_mul _ _).trans (congrArg nI (by omega))) ?_
          refine g_icN_ge X (a := (10 * (M 2))) (b := 10 * (M 2)) (tgt := 115) (by omega) (by omega) dX3_copy_94 (by decide) (fun h14 => ?_) (fun h14 => absurd h14 (by omega))
          refine g_vret X hr hlk hQ dX3_copy_115 ?_
          show g_eq _ _ _ _
          try rw [eS12]
          try rw [eS6]
          try rw [eC5]
          try rw [eN1]
          exact ⟨rfl, rfl⟩
        | succ n11 ihL9 =>
          intro i10 S12 hi13 eS12
          have hlti10 : i10 < (10 * (M 2)) := by omega
          refine g_iload_n X 2 dX3_copy_86 rfl rfl ?_
          refine g_aload_n X 0 dX3_copy_87 rfl rfl ?_
          refine g_get X (C := RX3) (T := TX3) (N := 7) (v := .int (nI (M 2))) inlX3 0 rfl rfl 0 (Nat.le_of_ble_eq_true rfl) kF_X3_9 (by rw [eN1]; rfl) dX3_copy_88 ?_
          refine g_bipush X (v := nI 10) dX3_copy_91 (by decide +kernel) ?_
          refine g_imul X (v := nI (10 * (M 2))) dX3_copy_93 ((pk_mul _ _).trans (congrArg nI (by omega))) ?_
          refine g_icN_ge X (a := i10) (b := 10 * (M 2)) (tgt := 115) (by omega) (by omega) dX3_copy_94 (by decide) (fun h15 => absurd h15 (by omega)) (fun h15 => ?_)
          refine g_aload_n X 0 dX3_copy_97 rfl rfl ?_
          refine g_get X (C := RX3) (T := TX3) (N := 7) (v := .ref (g 6)) inlX3 0 rfl rfl 6 (Nat.le_of_ble_eq_true rfl) kF_X3_32 rfl dX3_copy_98 ?_
          refine g_iload_n X 2 dX3_copy_101 rfl rfl ?_
          refine g_aload_n X 1 dX3_copy_102 rfl rfl ?_
          refine g_get X (C := RX3) (T := TX3) (N := 7) (v := .ref (o 6)) inlX3 7 rfl rfl 6 (Nat.le_of_ble_eq_true rfl) kF_X3_32 rfl dX3_copy_103 ?_
          refine g_iload_n X 2 dX3_copy_106 rfl rfl ?_
          refine g_lald X 13 rfl (i10) rfl (by omega) (Nat.le_of_ble_eq_true rfl) (v := T 11 i10) rfl dX3_copy_107 ?_
          obtain ⟨S16, eS16⟩ : ∃ z : St, z = u2 S12 11 i10 (T 11 i10) := ⟨_, rfl⟩
          refine g_last X (ws' := wS g cI cJ C5 N1 S16 ++ wS o cI cJ B M T) 6 rfl (i10) rfl (by omega) (Nat.le_of_ble_eq_true rfl) dX3_copy_108 (by rw [eS16]; first | done | (rfl)) ?_
          refine g_iinc X [(2, .int (nI (i10 + 1))), (0, .ref (g 0)), (1, .ref (o 0))] (q := 2) (v := nI (i10 + 1)) dX3_copy_109 rfl ((congrArg (fun z => nI (i10) + z) (show Int32.ofInt 1 = nI 1 by decide +kernel)).trans ((nI_add _ _).trans (congrArg nI (by omega)))) (Nat.le_of_ble_eq_true rfl) rfl ?_
          refine g_goto X (tgt := 86) dX3_copy_112 (by decide) ?_
          refine g_lv _ [1, 2, 0] rfl ?_
          exact ihL9 (i10 + 1) _ (by omega) (by (try rw [eS16]); (try rw [eS12]); first | done | (rfl))
      refine g_lv _ [1, 2, 0] rfl ?_
      exact L9 ((10 * (M 2))) 0 _ (by omega) (by first | rfl | ((try rw [eS6]); (try rw [eC5]); (try rw [eN1]); first | done | rfl))
    | succ n4 ihL2 =>
      intro i3 C5 S6 hi7 eC5 eS6
      have hlti3 : i3 < (M 2) := by omega
      refine g_iload_n X 2 dX3_copy_10 rfl rfl ?_
      refine g_aload_n X 0 dX3_copy_11 rfl rfl ?_
      refine g_get X (C := RX3) (T := TX3) (N := 7) (v := .int (nI (M 2))) inlX3 0 rfl rfl 0 (Nat.le_of_ble_eq_true rfl) kF_X3_9 (by rw [eN1]; rfl) dX3_copy_12 ?_
      refine g_icN_ge X (a := i3) (b := (M 2)) (tgt := 84) (by omega) (by omega) dX3_copy_15 (by decide) (fun h17 => absurd h17 (by omega)) (fun h17 => ?_)
      refine g_aload_n X 0 dX3_copy_18 rfl rfl ?_
      refine g_get X (C := RX3) (T := TX3) (N := 7) (v := .ref (g 1)) inlX3 0 rfl rfl 1 (Nat.le_of_ble_eq_true rfl) kF_X3_15 rfl dX3_copy_19 ?_
      refine g_iload_n X 2 dX3_copy_22 rfl rfl ?_
      refine g_aload_n X 1 dX3_copy_23 rfl rfl ?_
      refine g_get X (C := RX3) (T := TX3) (N := 7) (v := .ref (o 1)) inlX3 7 rfl rfl 1 (Nat.le_of_ble_eq_true rfl) kF_X3_15 rfl dX3_copy_24 ?_
      refine g_iload_n X 2 dX3_copy_27 rfl rfl ?_
      refine g_iald X 8 rfl (i3) rfl (by omega) (Nat.le_of_ble_eq_true rfl) (v := B 7 i3) rfl dX3_copy_28 ?_
      obtain ⟨C18, eC18⟩ : ∃ z : Cf, z = c2 C5 7 i3 (B 7 i3) := ⟨_, rfl⟩
      refine g_iast X (ws' := wS g cI cJ C18 N1 S6 ++ wS o cI cJ B M T) 1 rfl (i3) rfl (by omega) (Nat.le_of_ble_eq_true rfl) dX3_copy_29 (by rw [eC18]; first | done | (rfl)) ?_
      refine g_aload_n X 0 dX3_copy_30 rfl rfl ?_
      refine g_get X (C := RX3) (T := TX3) (N := 7) (v := .ref (g 2)) inlX3 0 rfl rfl 2 (Nat.le_of_ble_eq_true rfl) kF_X3_19 rfl dX3_copy_31 ?_
      refine g_iload_n X 2 dX3_copy_34 rfl rfl ?_
      refine g_aload_n X 1 dX3_copy_35 rfl rfl ?_
      refine g_get X (C := RX3) (T := TX3) (N := 7) (v := .ref (o 2)) inlX3 7 rfl rfl 2 (Nat.le_of_ble_eq_true rfl) kF_X3_19 rfl dX3_copy_36 ?_
      refine g_iload_n X 2 dX3_copy_39 rfl rfl ?_
      refine g_iald X 9 rfl (i3) rfl (by omega) (Nat.le_of_ble_eq_true rfl) (v := B 8 i3) rfl dX3_copy_40 ?_
      obtain ⟨C19, eC19⟩ : ∃ z : Cf, z = c2 C18 8 i3 (B 8 i3) := ⟨_, rfl⟩
      refine g_iast X (ws' := wS g cI cJ C19 N1 S6 ++ wS o cI cJ B M T) 2 rfl (i3) rfl (by omega) (Nat.le_of_ble_eq_true rfl) dX3_copy_41 (by rw [eC19]; first | done | (rfl)) ?_
      refine g_aload_n X 0 dX3_copy_42 rfl rfl ?_
      refine g_get X (C := RX3) (T := TX3) (N := 7) (v := .ref (g 3)) inlX3 0 rfl rfl 3 (Nat.le_of_ble_eq_true rfl) kF_X3_22 rfl dX3_copy_43 ?_
      refine g_iload_n X 2 dX3_copy_46 rfl rfl ?_
      refine g_aload_n X 1 dX3_copy_47 rfl rfl ?_
      refine g_get X (C := RX3) (T := TX3) (N := 7) (v := .ref (o 3)) inlX3 7 rfl rfl 3 (Nat.le_of_ble_eq_true rfl) kF_X3_22 rfl dX3_copy_48 ?_
      refine g_iload_n X 2 dX3_copy_51 rfl rfl ?_
      refine g_iald X 10 rfl (i3) rfl (by omega) (Nat.le_of_ble_eq_true rfl) (v := B 9 i3) rfl dX3_copy_52 ?_
      obtain ⟨C20, eC20⟩ : ∃ z : Cf, z = c2 C19 9 i3 (B 9 i3) := ⟨_, rfl⟩
      refine g_iast X (ws' := wS g cI cJ C20 N1 S6 ++ wS o cI cJ B M T) 3 rfl (i3) rfl (by omega) (Nat.le_of_ble_eq_true rfl) dX3_copy_53 (by rw [eC20]; first | done | (rfl)) ?_
      refine g_aload_n X 0 dX3_copy_54 rfl rfl ?_
      refine g_get X (C := RX3) (T := TX3) (N := 7) (v := .ref (g 4)) inlX3 0 rfl rfl 4 (Nat.le_of_ble_eq_true rfl) kF_X3_25 rfl dX3_copy_55 ?_
      refine g_iload_n X 2 dX3_copy_58 rfl rfl ?_
      refine g_aload_n X 1 dX3_copy_59 rfl rfl ?_
      refine g_get X (C := RX3) (T := TX3) (N := 7) (v := .ref (o 4)) inlX3 7 rfl rfl 4 (Nat.le_of_ble_eq_true rfl) kF_X3_25 rfl dX3_copy_60 ?_
      refine g_iload_n X 2 dX3_copy_63 rfl rfl ?_
      refine g_lald X 11 rfl (i3) rfl (by omega) (Nat.le_of_ble_eq_true rfl) (v := T 9 i3) rfl dX3_copy_64 ?_
      obtain ⟨S21, eS21⟩ : ∃ z : St, z = u2 S6 9 i3 (T 9 i3) := ⟨_, rfl⟩
      refine g_last X (ws' := wS g cI cJ C20 N1 S21 ++ wS o cI cJ B M T) 4 rfl (i3) rfl (by omega) (Nat.le_of_ble_eq_true rfl) dX3_copy_65 (by rw [eS21]; first | done | (rfl)) ?_
      refine g_aload_n X 0 dX3_copy_66 rfl rfl ?_
      refine g_get X (C := RX3) (T := TX3) (N := 7) (v := .ref (g 5)) inlX3 0 rfl rfl 5 (Nat.le_of_ble_eq_true rfl) kF_X3_29 rfl dX3_copy_67 ?_
      refine g_iload_n X 2 dX3_copy_70 rfl rfl ?_
      refine g_aload_n X 1 dX3_copy_71 rfl rfl ?_
      refine g_get X (C := RX3) (T := TX3) (N := 7) (v := .ref (o 5)) inlX3 7 rfl rfl 5 (Nat.le_of_ble_eq_true rfl) kF_X3_29 rfl dX3_copy_72 ?_
      refine g_iload_n X 2 dX3_copy_75 rfl rfl ?_
      refine g_iald X 12 rfl (i3) rfl (by omega) (Nat.le_of_ble_eq_true rfl) (v := (T 10 i3).toInt32) rfl dX3_copy_76 ?_
      obtain ⟨S22, eS22⟩ : ∃ z : St, z = u2 S21 10 i3 (T 10 i3) := ⟨_, rfl⟩
      refine g_iast X (ws' := wS g cI cJ C20 N1 S22 ++ wS o cI cJ B M T) 5 rfl (i3) rfl (by omega) (Nat.le_of_ble_eq_true rfl) dX3_copy_77 (by rw [eS22]; first | done | (rw [i32_updV _ _ (v := T 10 i3) rfl]; rfl)) ?_
      refine g_iinc X [(2, .int (nI (i3 + 1))), (0, .ref (g 0)), (1, .ref (o 0))] (q := 2) (v := nI (i3 + 1)) dX3_copy_78 rfl ((congrArg (fun z => nI (i3) + z) (show Int32.ofInt 1 = nI 1 by decide +kernel)).trans ((nI_add _ _).trans (congrArg nI (by omega)))) (Nat.le_of_ble_eq_true rfl) rfl ?_
      refine g_goto X (tgt := 10) dX3_copy_81 (by decide) ?_
      refine g_lv _ [1, 2, 0] rfl ?_
      exact ihL2 (i3 + 1) _ _ (by omega) (by (try rw [eS22]); (try rw [eS21]); (try rw [eC20]); (try rw [eC19]); (try rw [eC18]); (try rw [eS6]); (try rw [eC5]); first | done | (rfl)) (by (try rw [eS22]); (try rw [eS21]); (try rw [eC20]); (try rw [eC19]); (try rw [eC18]); (try rw [eS6]); (try rw [eC5]); first | done | (rfl))
  refine g_lv _ [1, 2, 0] rfl ?_
  exact L2 ((M 2)) 0 _ _ (by omega) (by first | rfl | ((try rw [eN1]); first | done | rfl)) (by first | rfl | ((try rw [eN1]); first | done | rfl))
theorem kq_60 (n : Nat) : (if 60 < n then 60 else n) ≤ 60 := by split <;> omega
theorem kq_q {S T : St} (h : S 14 0 = T 14 0) : qN S = qN T := by unfold qN; rw [h]

theorem hV_X2_copy : yX2_copy.cls = RX2 ∧ yX2_copy.cls ≠ "java/lang/invoke/MethodHandle" ∧ yX2_copy.cls ≠ "java/lang/invoke/VarHandle" ∧ (parseMethodDescriptor yX2_copy.desc).map (fun d => d.parameters.length) = some 1 := by decide +kernel
abbrev rm_X2_copy : Room := { frames := 2, cells := 0, slots := 0, locals := 43 }
set_option maxRecDepth 100000 in
set_option maxHeartbeats 4000000 in
theorem m_X2_copy (l : Launch) (D : va_G) (cI cJ cZ : ClassId) (g o : Nat → Nat) (S : St) (Qk : Nat → Int64) (T : St) (Qj : Nat → Int64) (hq : T 14 0 = lN (qN T) ∧ qN T ≤ 900000) : g_Ct l D cI cJ cZ yX2_copy cX2_copy 3 none rm_X2_copy 0 0 [.ref (g 0), .ref (o 0)] (wQ g cI S Qk ++ wQ o cI T Qj) (g_eq none (wQ g cI (u2 S 14 0 (T 14 0)) (cpQ Qj Qk (if 60 < qN T then 60 else qN T)) ++ wQ o cI T Qj)) := by
  refine g_body RX2 [(0, .ref (g 0)), (1, .ref (o 0))] kH_X2 rfl (Nat.le_of_ble_eq_true rfl) rfl ?_
  intro p e s m args below meth c A X hr hlk hmn Q hQ
  have hq2 := hq.2
  have hk60 := kq_60 (qN T)
  refine g_aload_n X 0 dX2_copy_0 rfl rfl ?_
  refine g_aload_n X 1 dX2_copy_1 rfl rfl ?_
  refine g_get X (C := RX2) (T := TX2) (N := 4) (v := .int ((T 14 0).toInt32)) inlX2 4 rfl rfl 0 (Nat.le_of_ble_eq_true rfl) kF_X2_9 rfl dX2_copy_2 ?_
  obtain ⟨S1, eS1⟩ : ∃ z : St, z = u2 S 14 0 (T 14 0) := ⟨_, rfl⟩
  refine g_put X (C := RX2) (T := TX2) (N := 4) (ws' := wQ g cI S1 Qk ++ wQ o cI T Qj) inlX2 tyX2 tyX2_ok nmX2 0 rfl rfl 0 (Nat.le_of_ble_eq_true rfl) kF_X2_9 rfl rfl rfl (Nat.le_of_ble_eq_true rfl) dX2_copy_5 (by rw [eS1]; first | done | (rfl)) ?_
  refine g_iconst X (v := nI 0) dX2_copy_8 (by decide +kernel) ?_
  refine g_istore_n X [(2, .int (nI 0)), (0, .ref (g 0)), (1, .ref (o 0))] dX2_copy_9 rfl (Nat.le_of_ble_eq_true rfl) rfl ?_
  have L2 : ∀ (n4 i3 : Nat) (Qk5 : Nat → Int64), i3 + n4 = (if 60 < qN T then 60 else qN T) → Qk5 = cpQ Qj Qk i3 → g_G p l e rm_X2_copy s m args below meth c D A 3 0 0 Q (wQ g cI S1 Qk5 ++ wQ o cI T Qj) [(0, .ref (g 0)), (1, .ref (o 0)), (2, .int (nI i3))] 10 [] := by
    intro n4
    induction n4 with
    | zero =>
      intro i3 Qk5 hi6 eQk5
      obtain rfl : i3 = (if 60 < qN T then 60 else qN T) := by omega
      refine g_iload_n X 2 dX2_copy_10 rfl rfl ?_
      refine g_aload_n X 0 dX2_copy_11 rfl rfl ?_
      refine g_callV X (As := []) (rest := [.int (nI (if 60 < qN T then 60 else qN T))]) (m_X2_kept l D cI cJ cZ g S1 Qk5  (by rw [eS1]; exact ⟨(u2_same _ _ _ _).trans (hq.1.trans (congrArg lN (kq_q (u2_same _ _ _ _)).symm)), by rw [kq_q (u2_same _ _ _ _)]; omega⟩)) kM_X2_31 kI_yX2_kept kS_yX2_kept kZ_RX2 kC_yX2_kept hV_X2_kept rfl rfl rfl 0 rfl (ci := 2) rfl ⟨Nat.le_of_ble_eq_true rfl, Nat.le_of_ble_eq_true rfl⟩ ⟨Nat.le_of_ble_eq_true rfl, Nat.le_of_ble_eq_true rfl⟩ (Nat.le_of_ble_eq_true rfl) dX2_copy_12 rfl [0, 1, 2, 3] rfl rfl (g_kk1 (w2 := wQ g cI S1 Qk5 ++ wQ o cI T Qj) ⟨[0, 1, 2, 3], [4, 5, 6, 7], [4, 5, 6, 7, 0, 1, 2, 3], ([4, 5, 6, 7].filterMap fun i => (wQ g cI S1 Qk5 ++ wQ o cI T Qj)[i]?), rfl, rfl, rfl, rfl, by decide, rfl, rfl⟩ ?_)
      refine g_st (st' := [.int (nI (if 60 < qN T then 60 else qN T)), .int (nI (if 60 < qN T then 60 else qN T))]) (by rw [← (congrArg nI (show (if 60 < qN S1 then 60 else qN S1) = (if 60 < qN T then 60 else qN T) from by rw [kq_q (show S1 14 0 = T 14 0 by rw [eS1]; exact u2_same _ _ _ _)]))]; first | done | rfl) ?_
      refine g_icN_ge X (a := (if 60 < qN T then 60 else qN T)) (b := (if 60 < qN T then 60 else qN T)) (tgt := 60) (by omega) (by omega) dX2_copy_15 (by decide) (fun h7 => ?_) (fun h7 => absurd h7 (by omega))
      refine g_vret X hr hlk hQ dX2_copy_60 ?_
      show g_eq _ _ _ _
      try rw [eQk5]
      try rw [eS1]
      exact ⟨rfl, rfl⟩
    | succ n4 ihL2 =>
      intro i3 Qk5 hi6 eQk5
      have hlti3 : i3 < (if 60 < qN T then 60 else qN T) := by omega
      refine g_iload_n X 2 dX2_copy_10 rfl rfl ?_
      refine g_aload_n X 0 dX2_copy_11 rfl rfl ?_
      refine g_callV X (As := []) (rest := [.int (nI i3)]) (m_X2_kept l D cI cJ cZ g S1 Qk5  (by rw [eS1]; exact ⟨(u2_same _ _ _ _).trans (hq.1.trans (congrArg lN (kq_q (u2_same _ _ _ _)).symm)), by rw [kq_q (u2_same _ _ _ _)]; omega⟩)) kM_X2_31 kI_yX2_kept kS_yX2_kept kZ_RX2 kC_yX2_kept hV_X2_kept rfl rfl rfl 0 rfl (ci := 2) rfl ⟨Nat.le_of_ble_eq_true rfl, Nat.le_of_ble_eq_true rfl⟩ ⟨Nat.le_of_ble_eq_true rfl, Nat.le_of_ble_eq_true rfl⟩ (Nat.le_of_ble_eq_true rfl) dX2_copy_12 rfl [0, 1, 2, 3] rfl rfl (g_kk1 (w2 := wQ g cI S1 Qk5 ++ wQ o cI T Qj) ⟨[0, 1, 2, 3], [4, 5, 6, 7], [4, 5, 6, 7, 0, 1, 2, 3], ([4, 5, 6, 7].filterMap fun i => (wQ g cI S1 Qk5 ++ wQ o cI T Qj)[i]?), rfl, rfl, rfl, rfl, by decide, rfl, rfl⟩ ?_)
      refine g_st (st' := [.int (nI (if 60 < qN T then 60 else qN T)), .int (nI i3)]) (by rw [← (congrArg nI (show (if 60 < qN S1 then 60 else qN S1) = (if 60 < qN T then 60 else qN T) from by rw [kq_q (show S1 14 0 = T 14 0 by rw [eS1]; exact u2_same _ _ _ _)]))]; first | done | rfl) ?_
      refine g_icN_ge X (a := i3) (b := (if 60 < qN T then 60 else qN T)) (tgt := 60) (by omega) (by omega) dX2_copy_15 (by decide) (fun h8 => absurd h8 (by omega)) (fun h8 => ?_)
      refine g_aload_n X 0 dX2_copy_18 rfl rfl ?_
      refine g_get X (C := RX2) (T := TX2) (N := 4) (v := .ref (g 1)) inlX2 0 rfl rfl 1 (Nat.le_of_ble_eq_true rfl) kF_X2_15 rfl dX2_copy_19 ?_
      refine g_iload_n X 2 dX2_copy_22 rfl rfl ?_
      refine g_aload_n X 1 dX2_copy_23 rfl rfl ?_
      refine g_get X (C := RX2) (T := TX2) (N := 4) (v := .ref (o 1)) inlX2 4 rfl rfl 1 (Nat.le_of_ble_eq_true rfl) kF_X2_15 rfl dX2_copy_24 ?_
      refine g_iload_n X 2 dX2_copy_27 rfl rfl ?_
      refine g_iald X 5 rfl (i3) rfl (by omega) (Nat.le_of_ble_eq_true rfl) (v := (Qj (3 * i3 + 0)).toInt32) rfl dX2_copy_28 ?_
      obtain ⟨Qk9, eQk9⟩ : ∃ z : Nat → Int64, z = vp_updL Qk5 (3 * i3 + 0) (Qj (3 * i3 + 0)) := ⟨_, rfl⟩
      refine g_iast X (ws' := wQ g cI S1 Qk9 ++ wQ o cI T Qj) 1 rfl (i3) rfl (by omega) (Nat.le_of_ble_eq_true rfl) dX2_copy_29 (by rw [eQk9]; first | done | (exact congrArg (fun z => z ++ wQ o cI T Qj) (wQ_0 rfl))) ?_
      refine g_aload_n X 0 dX2_copy_30 rfl rfl ?_
      refine g_get X (C := RX2) (T := TX2) (N := 4) (v := .ref (g 2)) inlX2 0 rfl rfl 2 (Nat.le_of_ble_eq_true rfl) kF_X2_19 rfl dX2_copy_31 ?_
      refine g_iload_n X 2 dX2_copy_34 rfl rfl ?_
      refine g_aload_n X 1 dX2_copy_35 rfl rfl ?_
      refine g_get X (C := RX2) (T := TX2) (N := 4) (v := .ref (o 2)) inlX2 4 rfl rfl 2 (Nat.le_of_ble_eq_true rfl) kF_X2_19 rfl dX2_copy_36 ?_
      refine g_iload_n X 2 dX2_copy_39 rfl rfl ?_
      refine g_iald X 6 rfl (i3) rfl (by omega) (Nat.le_of_ble_eq_true rfl) (v := (Qj (3 * i3 + 1)).toInt32) rfl dX2_copy_40 ?_
      obtain ⟨Qk10, eQk10⟩ : ∃ z : Nat → Int64, z = vp_updL Qk9 (3 * i3 + 1) (Qj (3 * i3 + 1)) := ⟨_, rfl⟩
      refine g_iast X (ws' := wQ g cI S1 Qk10 ++ wQ o cI T Qj) 2 rfl (i3) rfl (by omega) (Nat.le_of_ble_eq_true rfl) dX2_copy_41 (by rw [eQk10]; first | done | (exact congrArg (fun z => z ++ wQ o cI T Qj) (wQ_1 rfl))) ?_
      refine g_aload_n X 0 dX2_copy_42 rfl rfl ?_
      refine g_get X (C := RX2) (T := TX2) (N := 4) (v := .ref (g 3)) inlX2 0 rfl rfl 3 (Nat.le_of_ble_eq_true rfl) kF_X2_22 rfl dX2_copy_43 ?_
      refine g_iload_n X 2 dX2_copy_46 rfl rfl ?_
      refine g_aload_n X 1 dX2_copy_47 rfl rfl ?_
      refine g_get X (C := RX2) (T := TX2) (N := 4) (v := .ref (o 3)) inlX2 4 rfl rfl 3 (Nat.le_of_ble_eq_true rfl) kF_X2_22 rfl dX2_copy_48 ?_
      refine g_iload_n X 2 dX2_copy_51 rfl rfl ?_
      refine g_iald X 7 rfl (i3) rfl (by omega) (Nat.le_of_ble_eq_true rfl) (v := (Qj (3 * i3 + 2)).toInt32) rfl dX2_copy_52 ?_
      obtain ⟨Qk11, eQk11⟩ : ∃ z : Nat → Int64, z = vp_updL Qk10 (3 * i3 + 2) (Qj (3 * i3 + 2)) := ⟨_, rfl⟩
      refine g_iast X (ws' := wQ g cI S1 Qk11 ++ wQ o cI T Qj) 3 rfl (i3) rfl (by omega) (Nat.le_of_ble_eq_true rfl) dX2_copy_53 (by rw [eQk11]; first | done | (exact congrArg (fun z => z ++ wQ o cI T Qj) (wQ_2 rfl))) ?_
      refine g_iinc X [(2, .int (nI (i3 + 1))), (0, .ref (g 0)), (1, .ref (o 0))] (q := 2) (v := nI (i3 + 1)) dX2_copy_54 rfl ((congrArg (fun z => nI (i3) + z) (show Int32.ofInt 1 = nI 1 by decide +kernel)).trans ((nI_add _ _).trans (congrArg nI (by omega)))) (Nat.le_of_ble_eq_true rfl) rfl ?_
      refine g_goto X (tgt := 10) dX2_copy_57 (by decide) ?_
      refine g_lv _ [1, 2, 0] rfl ?_
      exact ihL2 (i3 + 1) _ (by omega) (by (try rw [eQk11]); (try rw [eQk10]); (try rw [eQk9]); (try rw [eQk5]); first | done | (rfl))
  refine g_lv _ [1, 2, 0] rfl ?_
  exact L2 ((if 60 < qN T then 60 else qN T)) 0 _ (by omega) (by first | rfl | ((try rw [eS1]); first | done | rfl))
