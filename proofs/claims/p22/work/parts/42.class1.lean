/-! the class's calls -/
def wX (x : Nat → Nat) (y : Nat) (cI cJ cZ : ClassId) (C : Cf) (N : Nat → Nat) (S : St) (Qk : Nat → Int64) (Z : St) : va_W := (x 0, .inr (6, [.ref (x 1), .ref y])) :: wF (fun i => x (1 + i)) cI cJ cZ C N S Qk Z
theorem mo_z {z : Int64} (h : 0 ≤ z.toInt ∧ z.toInt ≤ 1000) : (if ¬ z.toInt32 = 0 then false else true) = decide (z ≤ 0) := by
  have e0 : (0 : Int64).toInt = 0 := by decide
  have e1 : (0 : Int32).toInt = 0 := by decide
  have e2 : z.toInt32.toInt = z.toInt := by rw [Int64.toInt_toInt32, Int.bmod_eq_of_le (by omega) (by omega)]
  by_cases h1 : z ≤ 0
  · rw [Int64.le_iff_toInt_le] at h1
    rw [if_neg (fun q => q (Int32.toInt_inj.mp (by omega))), decide_eq_true (Int64.le_iff_toInt_le.mpr h1)]
  · rw [if_pos (fun q => h1 (Int64.le_iff_toInt_le.mpr (by have := congrArg Int32.toInt q; omega))), decide_eq_false h1]
def swC (C : Cf) (b o : Nat) (r : Int32) : Cf := if b / 4 = o / 4 then c2 C 0 (loK b o) r else c2 C 1 (loK b o) r
def swR (C : Cf) (b o : Nat) : Int32 := if b / 4 = o / 4 then C 0 (loK b o) else C 1 (loK b o)
theorem mn_lo {b o : Nat} (hb : b < 12) (ho : o < 12) : (if nI o < nI b then nI o else nI b) = nI (loK b o) := by
  unfold loK
  by_cases h : o ≤ b
  · rw [if_pos h]
    by_cases h2 : o < b
    · rw [if_pos ((nI_ltI (by omega) (by omega)).mpr h2)]
    · rw [if_neg (fun z => h2 ((nI_ltI (by omega) (by omega)).mp z)), show o = b by omega]
  · rw [if_neg h, if_neg (fun z => h (Nat.le_of_lt ((nI_ltI (by omega) (by omega)).mp z)))]
theorem lo_lt {b o : Nat} (hb : b < 12) (ho : o < 12) : loK b o < 12 := by unfold loK; split <;> omega

theorem hV_X1_setWidth : yX1_setWidth.cls = RX1 ∧ yX1_setWidth.cls ≠ "java/lang/invoke/MethodHandle" ∧ yX1_setWidth.cls ≠ "java/lang/invoke/VarHandle" ∧ (parseMethodDescriptor yX1_setWidth.desc).map (fun d => d.parameters.length) = some 3 := by decide +kernel
abbrev rm_X1_setWidth : Room := { frames := 1, cells := 0, slots := 0, locals := 23 }
set_option maxRecDepth 100000 in
set_option maxHeartbeats 4000000 in
theorem m_X1_setWidth (l : Launch) (D : va_G) (cI cJ cZ : ClassId) (g : Nat → Nat) (C : Cf) (S Z : St) (b o : Nat) (r : Int32) (hb : b < 12) (ho : o < 12) : g_Ct l D cI cJ cZ yX1_setWidth cX1_setWidth 7 (some .int) rm_X1_setWidth 0 0 [.ref (g 0), .int (nI b), .int (nI o), .int r] (wG g cI cJ C S Z) (g_eq (some (.int (swR C b o))) (wG g cI cJ (swC C b o r) S Z)) := by
  refine g_body RX1 [(0, .ref (g 0)), (1, .int (nI b)), (2, .int (nI o)), (3, .int r)] kH_X1 rfl (Nat.le_of_ble_eq_true rfl) rfl ?_
  intro p e s m args below meth c A X hr hlk hmn Q hQ
  have hlo := lo_lt hb ho
  refine g_iload_n X 1 dX1_setWidth_0 rfl rfl ?_
  refine g_iload_n X 2 dX1_setWidth_1 rfl rfl ?_
  refine g_mmin X (v := nI (loK b o)) kT_min kM_X1_44 kZ_Math kC_min (Nat.le_of_ble_eq_true rfl) (Nat.le_of_ble_eq_true rfl) (Nat.le_of_ble_eq_true rfl) (Nat.le_of_ble_eq_true rfl) (mn_lo hb ho) dX1_setWidth_2 ?_
  refine g_istore X [(4, .int (nI (loK b o))), (0, .ref (g 0)), (1, .int (nI b)), (2, .int (nI o)), (3, .int r)] dX1_setWidth_5 (Nat.le_of_ble_eq_true rfl) rfl ?_
  refine g_iload_n X 2 dX1_setWidth_7 rfl rfl ?_
  refine g_iconst X (v := nI 4) dX1_setWidth_8 (by decide +kernel) ?_
  refine g_idiv X (v := nI (b / 4)) dX1_setWidth_9 (by decide +kernel) (pk_div (by omega) (by decide) (by decide)) ?_
  refine g_iload_n X 3 dX1_setWidth_10 rfl rfl ?_
  refine g_iconst X (v := nI 4) dX1_setWidth_11 (by decide +kernel) ?_
  refine g_idiv X (v := nI (o / 4)) dX1_setWidth_12 (by decide +kernel) (pk_div (by omega) (by decide) (by decide)) ?_
  refine g_icN_ne X (a := (b / 4)) (b := (o / 4)) (tgt := 23) (by omega) (by omega) dX1_setWidth_13 (by decide) (fun h1 => ?_) (fun h1 => ?_)
  · --
    refine g_aload_n X 1 dX1_setWidth_23 rfl rfl ?_
    refine g_get X (C := RX1) (T := TX1) (N := 9) (v := .ref (g 6)) inlX1 0 rfl rfl 5 (Nat.le_of_ble_eq_true rfl) kF_X1_28 rfl dX1_setWidth_24 ?_
    refine g_astore X [(5, .ref (g 6)), (4, .int (nI (loK b o))), (0, .ref (g 0)), (1, .int (nI b)), (2, .int (nI o)), (3, .int r)] dX1_setWidth_27 (Nat.le_of_ble_eq_true rfl) rfl ?_
    refine g_aload X 0 dX1_setWidth_29 rfl ?_
    refine g_iload X 1 dX1_setWidth_31 rfl ?_
    refine g_iald X 6 rfl (loK b o) rfl (by omega) (Nat.le_of_ble_eq_true rfl) (v := C 1 (loK b o)) rfl dX1_setWidth_33 ?_
    refine g_istore X [(6, .int (C 1 (loK b o))), (5, .ref (g 6)), (4, .int (nI (loK b o))), (0, .ref (g 0)), (1, .int (nI b)), (2, .int (nI o)), (3, .int r)] dX1_setWidth_34 (Nat.le_of_ble_eq_true rfl) rfl ?_
    refine g_aload X 1 dX1_setWidth_36 rfl ?_
    refine g_iload X 2 dX1_setWidth_38 rfl ?_
    refine g_iload_n X 6 dX1_setWidth_40 rfl rfl ?_
    obtain ⟨C2, eC2⟩ : ∃ z : Cf, z = c2 C 1 (loK b o) r := ⟨_, rfl⟩
    refine g_iast X (ws' := wG g cI cJ C2 S Z) 6 rfl (loK b o) rfl (by omega) (Nat.le_of_ble_eq_true rfl) dX1_setWidth_41 (by rw [eC2]; first | done | (rfl)) ?_
    refine g_iload X 0 dX1_setWidth_42 rfl ?_
    refine g_iret X hr hlk hQ dX1_setWidth_44 ?_
    show g_eq _ _ _ _
    try rw [eC2]
    unfold swC swR
    first | (rw [if_pos (by assumption), if_pos (by assumption)]; exact ⟨rfl, rfl⟩) | (rw [if_neg (by assumption), if_neg (by assumption)]; exact ⟨rfl, rfl⟩)
  · --
    refine g_aload_n X 1 dX1_setWidth_16 rfl rfl ?_
    refine g_get X (C := RX1) (T := TX1) (N := 9) (v := .ref (g 5)) inlX1 0 rfl rfl 4 (Nat.le_of_ble_eq_true rfl) kF_X1_24 rfl dX1_setWidth_17 ?_
    refine g_goto X (tgt := 27) dX1_setWidth_20 (by decide) ?_
    refine g_astore X [(5, .ref (g 5)), (4, .int (nI (loK b o))), (0, .ref (g 0)), (1, .int (nI b)), (2, .int (nI o)), (3, .int r)] dX1_setWidth_27 (Nat.le_of_ble_eq_true rfl) rfl ?_
    refine g_aload X 0 dX1_setWidth_29 rfl ?_
    refine g_iload X 1 dX1_setWidth_31 rfl ?_
    refine g_iald X 5 rfl (loK b o) rfl (by omega) (Nat.le_of_ble_eq_true rfl) (v := C 0 (loK b o)) rfl dX1_setWidth_33 ?_
    refine g_istore X [(6, .int (C 0 (loK b o))), (5, .ref (g 5)), (4, .int (nI (loK b o))), (0, .ref (g 0)), (1, .int (nI b)), (2, .int (nI o)), (3, .int r)] dX1_setWidth_34 (Nat.le_of_ble_eq_true rfl) rfl ?_
    refine g_aload X 1 dX1_setWidth_36 rfl ?_
    refine g_iload X 2 dX1_setWidth_38 rfl ?_
    refine g_iload_n X 6 dX1_setWidth_40 rfl rfl ?_
    obtain ⟨C3, eC3⟩ : ∃ z : Cf, z = c2 C 0 (loK b o) r := ⟨_, rfl⟩
    refine g_iast X (ws' := wG g cI cJ C3 S Z) 5 rfl (loK b o) rfl (by omega) (Nat.le_of_ble_eq_true rfl) dX1_setWidth_41 (by rw [eC3]; first | done | (rfl)) ?_
    refine g_iload X 0 dX1_setWidth_42 rfl ?_
    refine g_iret X hr hlk hQ dX1_setWidth_44 ?_
    show g_eq _ _ _ _
    try rw [eC3]
    unfold swC swR
    first | (rw [if_pos (by assumption), if_pos (by assumption)]; exact ⟨rfl, rfl⟩) | (rw [if_neg (by assumption), if_neg (by assumption)]; exact ⟨rfl, rfl⟩)
theorem cB3_a {S : St} {v q r : Int32} (h : cB3 S v q r = 0) : inB v (nI 0) (nI 11) = true ∧ inB q (nI 0) (nI 50000) = true ∧ inB r (nI 0) (nI 350) = true ∧ S 13 0 ≤ 0 := by
  unfold cB3 at h
  (repeat' split at h) <;> simp_all
theorem inB_k {v : Int32} {n : Nat} (hn : n < 1000000) (h : inB v (nI 0) (nI n) = true) : nN v < n + 1 ∧ v = nI (nN v) := by
  obtain ⟨h1, h2⟩ := inB_iff.mp h
  obtain ⟨j, hj, e, _, ej, _⟩ := pk_mu (x := v) (L := n + 1) h1 (fun z => h2 (by
    rw [Int32.lt_iff_toInt_lt, nI_toInt (by omega)]
    rw [Int32.le_iff_toInt_le, nI_toInt (by omega)] at z
    omega)) (by omega)
  unfold nN
  rw [ej]
  exact ⟨hj, e⟩
theorem fill_m (S : St) (b : Nat) {q : Int32} {j : Nat} (hj : j < 50001) (eq : q = nI j) (r : Int32) : fillS S b j r.toInt64 = u2 (u2 S 0 b q.toInt64) 1 b (r.toInt64 * (q + nI 20000).toInt64) := by
  subst eq
  unfold fillS
  rw [nI_add, nI_l (by omega), nI_l (by omega)]

theorem hV_X6_block : yX6_block.cls = RX6 ∧ yX6_block.cls ≠ "java/lang/invoke/MethodHandle" ∧ yX6_block.cls ≠ "java/lang/invoke/VarHandle" ∧ (parseMethodDescriptor yX6_block.desc).map (fun d => d.parameters.length) = some 3 := by decide +kernel
abbrev rm_X6_block : Room := { frames := 2, cells := 0, slots := 0, locals := 42 }
set_option maxRecDepth 100000 in
set_option maxHeartbeats 4000000 in
theorem m_X6_block (l : Launch) (D : va_G) (cI cJ cZ : ClassId) (x : Nat → Nat) (y : Nat) (C : Cf) (N : Nat → Nat) (S : St) (Qk : Nat → Int64) (Z : St) (v q r : Int32) (hM : 0 ≤ (S 13 0).toInt ∧ (S 13 0).toInt ≤ 1000) (hc0 : cB3 S v q r = 0) : g_Ct l D cI cJ cZ yX6_block cX6_block 5 (some .int) rm_X6_block 0 0 [.ref (x 0), .int v, .int q, .int r] (wX x y cI cJ cZ C N S Qk Z) (g_eq (some (.int ((S 0 (nN v)).toInt32))) (wX x y cI cJ cZ C N (u2 (u2 S 0 (nN v) q.toInt64) 1 (nN v) (r.toInt64 * (q + nI 20000).toInt64)) Qk Z)) := by
  refine g_body RX6 [(0, .ref (x 0)), (1, .int v), (2, .int q), (3, .int r)] kH_X6 rfl (Nat.le_of_ble_eq_true rfl) rfl ?_
  intro p e s m args below meth c A X hr hlk hmn Q hQ
  have hk0 := cB3_a hc0
  obtain ⟨hvn, evn⟩ := inB_k (by decide) hk0.1
  obtain ⟨hqn, eqn⟩ := inB_k (by decide) hk0.2.1
  refine g_iload_n X 1 dX6_block_0 rfl rfl ?_
  refine g_bipush X (v := nI 12) dX6_block_1 (by decide +kernel) ?_
  refine g_callS X (As := [.int v, .int (nI 12)]) (rest := []) (m_X6_requireIndex l D cI cJ cZ v 12 (nI 11) (by decide +kernel) (by omega) hk0.1) kM_X6_19 kT_yX6_requireIndex kZ_RX6 kC_yX6_requireIndex hV_X6_requireIndex rfl rfl rfl ⟨Nat.le_of_ble_eq_true rfl, Nat.le_of_ble_eq_true rfl⟩ ⟨Nat.le_of_ble_eq_true rfl, Nat.le_of_ble_eq_true rfl⟩ (Nat.le_of_ble_eq_true rfl) dX6_block_3 rfl [] rfl (by decide +kernel) (g_kk1 (w2 := wX x y cI cJ cZ C N S Qk Z) em0 ?_)
  refine g_iload_n X 2 dX6_block_6 rfl rfl ?_
  refine g_iconst X (v := nI 0) dX6_block_7 (by decide +kernel) ?_
  refine g_ldc X kN_X6_23 dX6_block_8 (v' := nI 50000) (by decide +kernel) ?_
  refine g_callS X (As := [.int q, .int (nI 0), .int (nI 50000)]) (rest := []) (m_X6_requireRange l D cI cJ cZ q (nI 0) (nI 50000) hk0.2.1) kM_X6_24 kT_yX6_requireRange kZ_RX6 kC_yX6_requireRange hV_X6_requireRange rfl rfl rfl ⟨Nat.le_of_ble_eq_true rfl, Nat.le_of_ble_eq_true rfl⟩ ⟨Nat.le_of_ble_eq_true rfl, Nat.le_of_ble_eq_true rfl⟩ (Nat.le_of_ble_eq_true rfl) dX6_block_10 rfl [] rfl (by decide +kernel) (g_kk1 (w2 := wX x y cI cJ cZ C N S Qk Z) em0 ?_)
  refine g_iload_n X 3 dX6_block_13 rfl rfl ?_
  refine g_iconst X (v := nI 0) dX6_block_14 (by decide +kernel) ?_
  refine g_sipush X (v := nI 350) dX6_block_15 (by decide +kernel) ?_
  refine g_callS X (As := [.int r, .int (nI 0), .int (nI 350)]) (rest := []) (m_X6_requireRange l D cI cJ cZ r (nI 0) (nI 350) hk0.2.2.1) kM_X6_24 kT_yX6_requireRange kZ_RX6 kC_yX6_requireRange hV_X6_requireRange rfl rfl rfl ⟨Nat.le_of_ble_eq_true rfl, Nat.le_of_ble_eq_true rfl⟩ ⟨Nat.le_of_ble_eq_true rfl, Nat.le_of_ble_eq_true rfl⟩ (Nat.le_of_ble_eq_true rfl) dX6_block_18 rfl [] rfl (by decide +kernel) (g_kk1 (w2 := wX x y cI cJ cZ C N S Qk Z) em0 ?_)
  refine g_aload_n X 0 dX6_block_21 rfl rfl ?_
  refine g_get X (C := RX6) (T := TX6) (N := 2) (v := .ref (x 1)) inlX6 0 rfl rfl 0 (Nat.le_of_ble_eq_true rfl) kF_X6_10 rfl dX6_block_22 ?_
  refine g_get X (C := RX0) (T := TX0) (N := 11) (v := .int ((S 13 0).toInt32)) inlX0 1 rfl rfl 0 (Nat.le_of_ble_eq_true rfl) kF_X6_28 rfl dX6_block_25 ?_
  have J3 : ∀ (v2 : Bool), v2 = (if ¬ ((S 13 0).toInt32) = 0 then false else true) → g_G p l e rm_X6_block s m args below meth c D A 5 0 0 Q (wX x y cI cJ cZ C N S Qk Z) [(0, .ref (x 0)), (1, .int v), (2, .int q), (3, .int r)] 36 [.int (bI v2)] := by
    intro v2 ev2
    replace ev2 := ev2.trans (show _ = decide (S 13 0 ≤ 0) from mo_z hM)
    refine g_callS X (As := [.int (bI v2)]) (rest := []) (m_X6_requireState l D cI cJ cZ v2 (by rw [ev2]; exact decide_eq_true hk0.2.2.2)) kM_X6_32 kT_yX6_requireState kZ_RX6 kC_yX6_requireState hV_X6_requireState rfl rfl rfl ⟨Nat.le_of_ble_eq_true rfl, Nat.le_of_ble_eq_true rfl⟩ ⟨Nat.le_of_ble_eq_true rfl, Nat.le_of_ble_eq_true rfl⟩ (Nat.le_of_ble_eq_true rfl) dX6_block_36 rfl [] rfl (by decide +kernel) (g_kk1 (w2 := wX x y cI cJ cZ C N S Qk Z) em0 ?_)
    refine g_lvq (lv' := [(0, .ref (x 0)), (1, .int (nI (nN v))), (2, .int (nI (nN q))), (3, .int r)]) (by rw [← evn]; rw [← eqn]; first | done | rfl) ?_
    refine g_aload_n X 0 dX6_block_39 rfl rfl ?_
    refine g_get X (C := RX6) (T := TX6) (N := 2) (v := .ref (x 1)) inlX6 0 rfl rfl 0 (Nat.le_of_ble_eq_true rfl) kF_X6_10 rfl dX6_block_40 ?_
    refine g_get X (C := RX0) (T := TX0) (N := 11) (v := .ref (x 2)) inlX0 1 rfl rfl 2 (Nat.le_of_ble_eq_true rfl) kF_X6_36 rfl dX6_block_43 ?_
    refine g_get X (C := RX1) (T := TX1) (N := 9) (v := .ref (x 3)) inlX1 2 rfl rfl 0 (Nat.le_of_ble_eq_true rfl) kF_X6_40 rfl dX6_block_46 ?_
    refine g_iload_n X 1 dX6_block_49 rfl rfl ?_
    refine g_lald X 3 rfl (nN v) rfl (by omega) (Nat.le_of_ble_eq_true rfl) (v := S 0 (nN v)) rfl dX6_block_50 ?_
    refine g_l2i X (v := (S 0 (nN v)).toInt32) dX6_block_51 rfl ?_
    refine g_istore X [(4, .int ((S 0 (nN v)).toInt32)), (0, .ref (x 0)), (1, .int (nI (nN v))), (2, .int (nI (nN q))), (3, .int r)] dX6_block_52 (Nat.le_of_ble_eq_true rfl) rfl ?_
    refine g_aload_n X 1 dX6_block_54 rfl rfl ?_
    refine g_get X (C := RX6) (T := TX6) (N := 2) (v := .ref (x 1)) inlX6 0 rfl rfl 0 (Nat.le_of_ble_eq_true rfl) kF_X6_10 rfl dX6_block_55 ?_
    refine g_get X (C := RX0) (T := TX0) (N := 11) (v := .ref (x 2)) inlX0 1 rfl rfl 2 (Nat.le_of_ble_eq_true rfl) kF_X6_36 rfl dX6_block_58 ?_
    refine g_iload_n X 2 dX6_block_61 rfl rfl ?_
    refine g_iload_n X 3 dX6_block_62 rfl rfl ?_
    refine g_iload_n X 4 dX6_block_63 rfl rfl ?_
    obtain ⟨S4, eS4⟩ : ∃ z : St, z = fillS S (nN v) (nN q) r.toInt64 := ⟨_, rfl⟩
    refine g_callV X (As := [.int (nI (nN v)), .int (nI (nN q)), .int r]) (rest := []) (m_X1_fill l D cI cJ cZ (fun i => x (2 + i)) C S Z (nN v) (nN q) r hvn (by omega)) kM_X6_46 kI_yX1_fill kS_yX1_fill kZ_RX1 kC_yX1_fill hV_X1_fill rfl rfl rfl 0 rfl (ci := 1) rfl ⟨Nat.le_of_ble_eq_true rfl, Nat.le_of_ble_eq_true rfl⟩ ⟨Nat.le_of_ble_eq_true rfl, Nat.le_of_ble_eq_true rfl⟩ (Nat.le_of_ble_eq_true rfl) dX6_block_64 rfl (em_I 2 10 12 0) (em_C (by decide) (Nat.le_of_ble_eq_true rfl) rfl) (em_nd (by decide)) (g_kk1 (w2 := wX x y cI cJ cZ C N S4 Qk Z) (by rw [eS4]; exact (em3 2 10 12 0 (by decide) (Nat.le_of_ble_eq_true rfl) rfl rfl rfl)) ?_)
    refine g_iload X 0 dX6_block_67 rfl ?_
    refine g_iret X hr hlk hQ dX6_block_69 ?_
    show g_eq _ _ _ _
    try rw [eS4]
    try rw [ev2]
    refine ⟨rfl, ?_⟩
    exact congrArg (fun z => wX x y cI cJ cZ C N z Qk Z) (fill_m S (nN v) hqn eqn r)
  refine g_if_ne X (tgt := 35) dX6_block_28 (by decide) (fun h1 => ?_) (fun h1 => ?_)
  · --
    refine g_iconst X (v := nI 0) dX6_block_35 (by decide +kernel) ?_
    exact J3 _ (by rw [if_pos (c := ¬ ((S 13 0).toInt32) = 0) h1])
  · --
    refine g_iconst X (v := nI 1) dX6_block_31 (by decide +kernel) ?_
    refine g_goto X (tgt := 36) dX6_block_32 (by decide) ?_
    exact J3 _ (by rw [if_neg (c := ¬ ((S 13 0).toInt32) = 0) (fun z => z h1)])
abbrev rm_X6_blockX : Room := { frames := 8, cells := 1, slots := 6, locals := 124 }
set_option maxRecDepth 100000 in
set_option maxHeartbeats 4000000 in
theorem m_X6_blockX (l : Launch) (hl0 : l.stackTraces = false) (D : va_G) (cI cJ cZ : ClassId) (B0 : Nat) (x : Nat → Nat) (y : Nat) (C : Cf) (N : Nat → Nat) (S : St) (Qk : Nat → Int64) (Z : St) (v q r : Int32) (hM : 0 ≤ (S 13 0).toInt ∧ (S 13 0).toInt ≤ 1000) (hc1 : ¬ cB3 S v q r = 0) (hB : g_Bw B0 (wX x y cI cJ cZ C N S Qk Z)) : g_CtX l D cI cJ cZ B0 yX6_block cX6_block 5 (some .int) rm_X6_blockX 1 6 [.ref (x 0), .int v, .int q, .int r] (wX x y cI cJ cZ C N S Qk Z) (fun _ _ => False) (fun E w => E = eA (cB3 S v q r) ∧ w = wX x y cI cJ cZ C N S Qk Z) := by
  refine g_bodyX RX6 [(0, .ref (x 0)), (1, .int v), (2, .int q), (3, .int r)] kH_X6 rfl (Nat.le_of_ble_eq_true rfl) rfl hB ?_
  intro p e s m args below meth c A X Y hT hr hlk hmn Q hQ
  refine g_iload_n X 1 dX6_block_0 rfl rfl ?_
  refine g_bipush X (v := nI 12) dX6_block_1 (by decide +kernel) ?_
  by_cases hok1 : inB v (nI 0) (nI 11) = true
  · --
    refine g_callS X (As := [.int v, .int (nI 12)]) (rest := []) (m_X6_requireIndex l D cI cJ cZ v 12 (nI 11) (by decide +kernel) (by omega) hok1) kM_X6_19 kT_yX6_requireIndex kZ_RX6 kC_yX6_requireIndex hV_X6_requireIndex rfl rfl rfl ⟨Nat.le_of_ble_eq_true rfl, Nat.le_of_ble_eq_true rfl⟩ ⟨Nat.le_of_ble_eq_true rfl, Nat.le_of_ble_eq_true rfl⟩ (Nat.le_of_ble_eq_true rfl) dX6_block_3 rfl [] rfl rfl (g_kk1 (w2 := wX x y cI cJ cZ C N S Qk Z) em0 ?_)
    refine g_iload_n X 2 dX6_block_6 rfl rfl ?_
    refine g_iconst X (v := nI 0) dX6_block_7 (by decide +kernel) ?_
    refine g_ldc X kN_X6_23 dX6_block_8 (v' := nI 50000) (by decide +kernel) ?_
    by_cases hok2 : inB q (nI 0) (nI 50000) = true
    · --
      refine g_callS X (As := [.int q, .int (nI 0), .int (nI 50000)]) (rest := []) (m_X6_requireRange l D cI cJ cZ q (nI 0) (nI 50000) hok2) kM_X6_24 kT_yX6_requireRange kZ_RX6 kC_yX6_requireRange hV_X6_requireRange rfl rfl rfl ⟨Nat.le_of_ble_eq_true rfl, Nat.le_of_ble_eq_true rfl⟩ ⟨Nat.le_of_ble_eq_true rfl, Nat.le_of_ble_eq_true rfl⟩ (Nat.le_of_ble_eq_true rfl) dX6_block_10 rfl [] rfl rfl (g_kk1 (w2 := wX x y cI cJ cZ C N S Qk Z) em0 ?_)
      refine g_iload_n X 3 dX6_block_13 rfl rfl ?_
      refine g_iconst X (v := nI 0) dX6_block_14 (by decide +kernel) ?_
      refine g_sipush X (v := nI 350) dX6_block_15 (by decide +kernel) ?_
      by_cases hok3 : inB r (nI 0) (nI 350) = true
      · --
        refine g_callS X (As := [.int r, .int (nI 0), .int (nI 350)]) (rest := []) (m_X6_requireRange l D cI cJ cZ r (nI 0) (nI 350) hok3) kM_X6_24 kT_yX6_requireRange kZ_RX6 kC_yX6_requireRange hV_X6_requireRange rfl rfl rfl ⟨Nat.le_of_ble_eq_true rfl, Nat.le_of_ble_eq_true rfl⟩ ⟨Nat.le_of_ble_eq_true rfl, Nat.le_of_ble_eq_true rfl⟩ (Nat.le_of_ble_eq_true rfl) dX6_block_18 rfl [] rfl rfl (g_kk1 (w2 := wX x y cI cJ cZ C N S Qk Z) em0 ?_)
        refine g_aload_n X 0 dX6_block_21 rfl rfl ?_
        refine g_get X (C := RX6) (T := TX6) (N := 2) (v := .ref (x 1)) inlX6 0 rfl rfl 0 (Nat.le_of_ble_eq_true rfl) kF_X6_10 rfl dX6_block_22 ?_
        refine g_get X (C := RX0) (T := TX0) (N := 11) (v := .int ((S 13 0).toInt32)) inlX0 1 rfl rfl 0 (Nat.le_of_ble_eq_true rfl) kF_X6_28 rfl dX6_block_25 ?_
        have J6 : ∀ (v5 : Bool), v5 = (if ¬ ((S 13 0).toInt32) = 0 then false else true) → g_G p l e rm_X6_blockX s m args below meth c D A 5 0 0 Q (wX x y cI cJ cZ C N S Qk Z) [(0, .ref (x 0)), (1, .int v), (2, .int q), (3, .int r)] 36 [.int (bI v5)] := by
          intro v5 ev5
          replace ev5 := ev5.trans (show _ = decide (S 13 0 ≤ 0) from mo_z hM)
          by_cases hok7 : v5 = true
          · --
            refine g_callS X (As := [.int (bI v5)]) (rest := []) (m_X6_requireState l D cI cJ cZ v5 hok7) kM_X6_32 kT_yX6_requireState kZ_RX6 kC_yX6_requireState hV_X6_requireState rfl rfl rfl ⟨Nat.le_of_ble_eq_true rfl, Nat.le_of_ble_eq_true rfl⟩ ⟨Nat.le_of_ble_eq_true rfl, Nat.le_of_ble_eq_true rfl⟩ (Nat.le_of_ble_eq_true rfl) dX6_block_36 rfl [] rfl rfl (g_kk1 (w2 := wX x y cI cJ cZ C N S Qk Z) em0 ?_)
            rw [ev5] at *
            refine absurd ?_ hc1
            (try clear evn); (try clear eqn)
            unfold cB3
            (repeat' split) <;> first | rfl | (exfalso; simp_all; done)
          · --
            refine g_callSX X Y hT hlk hQ (As := [.int (bI v5)]) (rest := []) (m_X6_requireStateX l hl0 D cI cJ cZ B0 v5 (eq_false_of_ne_true hok7)) kM_X6_32 kT_yX6_requireState kZ_RX6 kC_yX6_requireState hV_X6_requireState rfl rfl rfl ⟨Nat.le_of_ble_eq_true rfl, Nat.le_of_ble_eq_true rfl⟩ ⟨Nat.le_of_ble_eq_true rfl, Nat.le_of_ble_eq_true rfl⟩ (Nat.le_of_ble_eq_true rfl) dX6_block_36 rfl em0 (Nat.le_of_ble_eq_true rfl) (Nat.le_of_ble_eq_true rfl) ?_
            rw [ev5] at *
            refine ⟨?_, rfl⟩
            (try clear evn); (try clear eqn)
            unfold cB3
            (repeat' split) <;> first | (exfalso; simp_all; done) | rfl
        refine g_if_ne X (tgt := 35) dX6_block_28 (by decide) (fun h4 => ?_) (fun h4 => ?_)
        · --
          refine g_iconst X (v := nI 0) dX6_block_35 (by decide +kernel) ?_
          exact J6 _ (by rw [if_pos (c := ¬ ((S 13 0).toInt32) = 0) h4])
        · --
          refine g_iconst X (v := nI 1) dX6_block_31 (by decide +kernel) ?_
          refine g_goto X (tgt := 36) dX6_block_32 (by decide) ?_
          exact J6 _ (by rw [if_neg (c := ¬ ((S 13 0).toInt32) = 0) (fun z => z h4)])
      · --
        refine g_callSX X Y hT hlk hQ (As := [.int r, .int (nI 0), .int (nI 350)]) (rest := []) (m_X6_requireRangeX l hl0 D cI cJ cZ B0 r (nI 0) (nI 350) (eq_false_of_ne_true hok3)) kM_X6_24 kT_yX6_requireRange kZ_RX6 kC_yX6_requireRange hV_X6_requireRange rfl rfl rfl ⟨Nat.le_of_ble_eq_true rfl, Nat.le_of_ble_eq_true rfl⟩ ⟨Nat.le_of_ble_eq_true rfl, Nat.le_of_ble_eq_true rfl⟩ (Nat.le_of_ble_eq_true rfl) dX6_block_18 rfl em0 (Nat.le_of_ble_eq_true rfl) (Nat.le_of_ble_eq_true rfl) ?_
        refine ⟨?_, rfl⟩
        (try clear evn); (try clear eqn)
        unfold cB3
        (repeat' split) <;> first | (exfalso; simp_all; done) | rfl
    · --
      refine g_callSX X Y hT hlk hQ (As := [.int q, .int (nI 0), .int (nI 50000)]) (rest := []) (m_X6_requireRangeX l hl0 D cI cJ cZ B0 q (nI 0) (nI 50000) (eq_false_of_ne_true hok2)) kM_X6_24 kT_yX6_requireRange kZ_RX6 kC_yX6_requireRange hV_X6_requireRange rfl rfl rfl ⟨Nat.le_of_ble_eq_true rfl, Nat.le_of_ble_eq_true rfl⟩ ⟨Nat.le_of_ble_eq_true rfl, Nat.le_of_ble_eq_true rfl⟩ (Nat.le_of_ble_eq_true rfl) dX6_block_10 rfl em0 (Nat.le_of_ble_eq_true rfl) (Nat.le_of_ble_eq_true rfl) ?_
      refine ⟨?_, rfl⟩
      (try clear evn); (try clear eqn)
      unfold cB3
      (repeat' split) <;> first | (exfalso; simp_all; done) | rfl
  · --
    refine g_callSX X Y hT hlk hQ (As := [.int v, .int (nI 12)]) (rest := []) (m_X6_requireIndexX l hl0 D cI cJ cZ B0 v 12 (nI 11) (by decide +kernel) (by omega) (eq_false_of_ne_true hok1)) kM_X6_19 kT_yX6_requireIndex kZ_RX6 kC_yX6_requireIndex hV_X6_requireIndex rfl rfl rfl ⟨Nat.le_of_ble_eq_true rfl, Nat.le_of_ble_eq_true rfl⟩ ⟨Nat.le_of_ble_eq_true rfl, Nat.le_of_ble_eq_true rfl⟩ (Nat.le_of_ble_eq_true rfl) dX6_block_3 rfl em0 (Nat.le_of_ble_eq_true rfl) (Nat.le_of_ble_eq_true rfl) ?_
    refine ⟨?_, rfl⟩
    (try clear evn); (try clear eqn)
    unfold cB3
    (repeat' split) <;> first | (exfalso; simp_all; done) | rfl
