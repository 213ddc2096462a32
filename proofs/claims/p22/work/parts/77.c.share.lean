def shJ (a b : Int64) : Int32 := if a = 0 then nI 0 else nI (FP.fdiv (FP.l2f a) (FP.l2f b)).toNat
theorem shJ_M (S : St) : shJ (S 12 6) (S 12 7) = shM S := rfl
theorem ce_c {c e : Nat} (hc : c < 16777216) (he : e < 100000) : lN (c + e * 16777216) &&& 16777215 = lN c := by
  rw [show (16777215 : Int64) = lN (2 ^ 24 - 1) by decide, wb_mask (by omega) (by decide)]
  exact congrArg lN (by omega)
theorem ce_e {c e : Nat} (hc : c < 16777216) (he : e < 100000) : lN (c + e * 16777216) >>> ((nI 24).toInt64 &&& 63) = lN e := by
  rw [lsh_n (by omega) (by decide)]
  exact congrArg lN (by omega)
theorem stk_j {T c : Nat} (hT : T < 9223372036854775808) : (if ¬ lN (T % c) = 0 then lN (T / c) ||| 1 else lN (T / c)) = lN (stk T c) := by
  have h1 : T % c < 9223372036854775808 := Nat.lt_of_le_of_lt (Nat.mod_le _ _) hT
  have h2 : T / c < 9223372036854775808 := Nat.lt_of_le_of_lt (Nat.div_le_self _ _) hT
  have q : lN (T % c) = 0 ↔ T % c = 0 := pk_lEQ h1 (by decide)
  unfold stk
  by_cases h : T % c = 0
  · rw [if_neg (fun z => z (q.mpr h)), if_pos h]
  · rw [if_pos (fun z => h (q.mp z)), if_neg h, show (1 : Int64) = lN 1 from rfl, wb_or (by omega) (by decide), or_1]
theorem pw_3 {a b : Nat} (h : b ≤ a + 268) : nI a - nI b - nI 32 = nI (a + 268 - b) - nI 300 := by
  rw [← pk_sub h, ← nI_add a 268]
  have : nI 268 = nI 300 - nI 32 := by decide
  rw [this]
  grind

theorem hV_L_share : yL_share.cls = RL ∧ yL_share.cls ≠ "java/lang/invoke/MethodHandle" ∧ yL_share.cls ≠ "java/lang/invoke/VarHandle" ∧ (parseMethodDescriptor yL_share.desc).map (fun d => d.parameters.length) = some 2 := by decide +kernel
abbrev rm_L_share : Room := { frames := 1, cells := 0, slots := 0, locals := 31 }
set_option maxRecDepth 100000 in
set_option maxHeartbeats 4000000 in
theorem m_L_share (l : Launch) (D : va_G) (cI cJ cZ : ClassId) (na nb : Nat) (hab : na = 0 ∨ na * 16 ≤ nb) (hb : nb < 9223372036854775808) : g_Ct l D cI cJ cZ yL_share cL_share 16 (some .int) rm_L_share 0 0 [.long (lN na), .long (lN nb)] ([]) (g_eq (some (.int (shJ (lN na) (lN nb)))) ([])) := by
  refine g_body RL [(0, .long (lN na)), (2, .long (lN nb))] kH_L rfl (Nat.le_of_ble_eq_true rfl) rfl ?_
  intro p e s m args below meth c A X hr hlk hmn Q hQ
  by_cases hz : na = 0
  · --
    refine g_lload_n X 0 dL_share_0 rfl rfl ?_
    refine g_lconst X (v := 0) dL_share_1 (by decide +kernel) ?_
    refine g_lj_eq X (tgt := 12) (pc1 := 3) dL_share_2 rfl dL_share_3 (by decide) (fun h1 => ?_) (fun h1 => absurd (by rw [hz]; rfl) h1)
    refine g_iconst X (v := nI 0) dL_share_12 (by decide +kernel) ?_
    refine g_iret X hr hlk hQ dL_share_13 ?_
    show g_eq _ _ _ _
    refine ⟨congrArg (fun z => some (Value.int z)) ?_, rfl⟩
    unfold shJ
    rw [hz]
    rfl
  · --
    refine g_lload_n X 0 dL_share_0 rfl rfl ?_
    refine g_lconst X (v := 0) dL_share_1 (by decide +kernel) ?_
    refine g_lj_eq X (tgt := 12) (pc1 := 3) dL_share_2 rfl dL_share_3 (by decide) (fun h2 => absurd ((pk_lEQ (by omega) (by decide)).mp (show lN na = lN 0 from h2)) hz) (fun h2 => ?_)
    refine g_lload_n X 1 dL_share_6 rfl rfl ?_
    refine g_lconst X (v := 0) dL_share_7 (by decide +kernel) ?_
    refine g_lj_ne X (tgt := 14) (pc1 := 9) dL_share_8 rfl dL_share_9 (by decide) (fun h3 => ?_) (fun h3 => absurd ((pk_lEQ (by omega) (by decide)).mp (show lN nb = lN 0 from h3)) (by omega))
    have hab2 := hab.resolve_left hz
    have ea := eN_ok na
    have eb := eN_ok nb
    have hla : Nat.log2 na < 63 := (Nat.log2_lt hz).mpr (by omega)
    have hlb : Nat.log2 nb < 63 := (Nat.log2_lt (by omega)).mpr hb
    obtain ⟨ca1, ca2⟩ := cN_ok hz
    obtain ⟨cb1, cb2⟩ := cN_ok (show nb ≠ 0 by omega)
    have hs3 := stk_lg ca1 ca2 cb1 cb2
    obtain ⟨hsv, hs1, hs2⟩ := sh_fl hz hab2 hb
    have hn3 : (stk (cN na * 4294967296) (cN nb)) ≠ 0 ∧ (stk (cN na * 4294967296) (cN nb)) < 8589934592 := by omega
    obtain ⟨c31, c32⟩ := cN_ok hn3.1
    have e3 := eN_ok (stk (cN na * 4294967296) (cN nb))
    have hl3 : Nat.log2 (stk (cN na * 4294967296) (cN nb)) < 63 := (Nat.log2_lt hn3.1).mpr (by omega)
    refine g_lload_n X 0 dL_share_14 rfl rfl ?_
    refine g_iconst X (v := nI 0) dL_share_15 (by decide +kernel) ?_
    refine g_callS X (As := [.long (lN na), .int (nI 0)]) (rest := []) (m_L_rounds l D cI cJ cZ na 300 (nI 0) (by omega) (by omega) (by decide) (by decide) (by decide)) kM_L_72 kT_yL_rounds kZ_RL kC_yL_rounds hV_L_rounds rfl rfl rfl ⟨Nat.le_of_ble_eq_true rfl, Nat.le_of_ble_eq_true rfl⟩ ⟨Nat.le_of_ble_eq_true rfl, Nat.le_of_ble_eq_true rfl⟩ (Nat.le_of_ble_eq_true rfl) dL_share_16 rfl [] rfl rfl (g_kk1 (w2 := []) ⟨[], [], [], [], rfl, rfl, rfl, rfl, by decide, rfl, rfl⟩ ?_)
    refine g_st (st' := [.long (lN (cN na + eN na * 16777216))]) (by rw [Nat.add_sub_cancel_left]; first | done | rfl) ?_
    refine g_lstore X [(4, .long (lN (cN na + eN na * 16777216))), (0, .long (lN na)), (2, .long (lN nb))] dL_share_19 (Nat.le_of_ble_eq_true rfl) rfl ?_
    refine g_lload_n X 2 dL_share_21 rfl rfl ?_
    refine g_iconst X (v := nI 0) dL_share_22 (by decide +kernel) ?_
    refine g_callS X (As := [.long (lN nb), .int (nI 0)]) (rest := []) (m_L_rounds l D cI cJ cZ nb 300 (nI 0) (by omega) (by omega) (by decide) (by decide) (by decide)) kM_L_72 kT_yL_rounds kZ_RL kC_yL_rounds hV_L_rounds rfl rfl rfl ⟨Nat.le_of_ble_eq_true rfl, Nat.le_of_ble_eq_true rfl⟩ ⟨Nat.le_of_ble_eq_true rfl, Nat.le_of_ble_eq_true rfl⟩ (Nat.le_of_ble_eq_true rfl) dL_share_23 rfl [] rfl rfl (g_kk1 (w2 := []) ⟨[], [], [], [], rfl, rfl, rfl, rfl, by decide, rfl, rfl⟩ ?_)
    refine g_st (st' := [.long (lN (cN nb + eN nb * 16777216))]) (by rw [Nat.add_sub_cancel_left]; first | done | rfl) ?_
    refine g_lstore X [(6, .long (lN (cN nb + eN nb * 16777216))), (4, .long (lN (cN na + eN na * 16777216))), (0, .long (lN na)), (2, .long (lN nb))] dL_share_26 (Nat.le_of_ble_eq_true rfl) rfl ?_
    refine g_lload X 1 dL_share_28 rfl ?_
    refine g_ldc2 X kL_L_76 dL_share_30 ?_
    refine g_land X (v := lN (cN na)) dL_share_33 (ce_c ca2 (by omega)) ?_
    refine g_bipush X (v := nI 32) dL_share_34 (by decide +kernel) ?_
    refine g_lshl X (v := lN (cN na * 4294967296)) dL_share_36 (wb_shl (cN na) (k := 32) (by decide)) ?_
    refine g_lstore X [(8, .long (lN (cN na * 4294967296))), (6, .long (lN (cN nb + eN nb * 16777216))), (4, .long (lN (cN na + eN na * 16777216))), (0, .long (lN na)), (2, .long (lN nb))] dL_share_37 (Nat.le_of_ble_eq_true rfl) rfl ?_
    refine g_lload X 1 dL_share_39 rfl ?_
    refine g_ldc2 X kL_L_76 dL_share_41 ?_
    refine g_land X (v := lN (cN nb)) dL_share_44 (ce_c cb2 (by omega)) ?_
    refine g_lstore X [(10, .long (lN (cN nb))), (8, .long (lN (cN na * 4294967296))), (6, .long (lN (cN nb + eN nb * 16777216))), (4, .long (lN (cN na + eN na * 16777216))), (0, .long (lN na)), (2, .long (lN nb))] dL_share_45 (Nat.le_of_ble_eq_true rfl) rfl ?_
    refine g_lload X 1 dL_share_47 rfl ?_
    refine g_lload X 0 dL_share_49 rfl ?_
    refine g_ldiv X (v := lN ((cN na * 4294967296) / cN nb)) dL_share_51 (fun z => absurd ((pk_lEQ (by omega) (by decide)).mp (show lN (cN nb) = lN 0 from z)) (by omega)) (pk_lDiv (by omega) (by omega) (by omega)) ?_
    refine g_lstore X [(12, .long (lN ((cN na * 4294967296) / cN nb))), (10, .long (lN (cN nb))), (8, .long (lN (cN na * 4294967296))), (6, .long (lN (cN nb + eN nb * 16777216))), (4, .long (lN (cN na + eN na * 16777216))), (0, .long (lN na)), (2, .long (lN nb))] dL_share_52 (Nat.le_of_ble_eq_true rfl) rfl ?_
    refine g_lload X 2 dL_share_54 rfl ?_
    refine g_lload X 1 dL_share_56 rfl ?_
    refine g_lrem X (v := lN ((cN na * 4294967296) % cN nb)) dL_share_58 (fun z => absurd ((pk_lEQ (by omega) (by decide)).mp (show lN (cN nb) = lN 0 from z)) (by omega)) (pk_lRem (by omega) (by omega) (by omega)) ?_
    refine g_lconst X (v := 0) dL_share_59 (by decide +kernel) ?_
    have J6 : ∀ (v5 : Int64), v5 = (if ¬ (lN ((cN na * 4294967296) % cN nb)) = (0 : Int64) then (lN ((cN na * 4294967296) / cN nb)) ||| (1 : Int64) else lN ((cN na * 4294967296) / cN nb)) → g_G p l e rm_L_share s m args below meth c D A 16 0 0 Q ([]) [(4, .long (lN (cN na + eN na * 16777216))), (6, .long (lN (cN nb + eN nb * 16777216)))] 73 [.long v5] := by
      intro v5 ev5
      replace ev5 := ev5.trans (show _ = lN (stk (cN na * 4294967296) (cN nb)) from stk_j (by omega))
      refine g_st (st' := [.long (lN (stk (cN na * 4294967296) (cN nb)))]) (by rw [ev5]; first | done | rfl) ?_
      refine g_lload X 0 dL_share_73 rfl ?_
      refine g_bipush X (v := nI 24) dL_share_75 (by decide +kernel) ?_
      refine g_lshr X (v := lN (eN na)) dL_share_77 (ce_e ca2 (by omega)) ?_
      refine g_l2i X (v := nI (eN na)) dL_share_78 (lN_i _) ?_
      refine g_lload X 1 dL_share_79 rfl ?_
      refine g_bipush X (v := nI 24) dL_share_81 (by decide +kernel) ?_
      refine g_lshr X (v := lN (eN nb)) dL_share_83 (ce_e cb2 (by omega)) ?_
      refine g_l2i X (v := nI (eN nb)) dL_share_84 (lN_i _) ?_
      refine g_isub X (v := (nI (eN na)) - (nI (eN nb))) dL_share_85 rfl ?_
      refine g_bipush X (v := nI 32) dL_share_86 (by decide +kernel) ?_
      refine g_isub X (v := ((nI (eN na)) - (nI (eN nb))) - (nI 32)) dL_share_88 rfl ?_
      refine g_callS X (As := [.long (lN (stk (cN na * 4294967296) (cN nb))), .int (((nI (eN na)) - (nI (eN nb))) - (nI 32))]) (rest := []) (m_L_rounds l D cI cJ cZ (stk (cN na * 4294967296) (cN nb)) (eN na + 268 - eN nb) (((nI (eN na)) - (nI (eN nb))) - (nI 32)) hn3.1 (by omega) (by omega) (by omega) (pw_3 (by omega))) kM_L_72 kT_yL_rounds kZ_RL kC_yL_rounds hV_L_rounds rfl rfl rfl ⟨Nat.le_of_ble_eq_true rfl, Nat.le_of_ble_eq_true rfl⟩ ⟨Nat.le_of_ble_eq_true rfl, Nat.le_of_ble_eq_true rfl⟩ (Nat.le_of_ble_eq_true rfl) dL_share_89 rfl [] rfl rfl (g_kk1 (w2 := []) ⟨[], [], [], [], rfl, rfl, rfl, rfl, by decide, rfl, rfl⟩ ?_)
      refine g_lstore X [(14, .long (lN (cN (stk (cN na * 4294967296) (cN nb)) + (eN na + 268 - eN nb + eN (stk (cN na * 4294967296) (cN nb)) - 300) * 16777216))), (4, .long (lN (cN na + eN na * 16777216))), (6, .long (lN (cN nb + eN nb * 16777216)))] dL_share_92 (Nat.le_of_ble_eq_true rfl) rfl ?_
      refine g_lload X 0 dL_share_94 rfl ?_
      refine g_bipush X (v := nI 24) dL_share_96 (by decide +kernel) ?_
      refine g_lshr X (v := lN (eN na + 268 - eN nb + eN (stk (cN na * 4294967296) (cN nb)) - 300)) dL_share_98 (ce_e c32 (by omega)) ?_
      refine g_l2i X (v := nI (eN na + 268 - eN nb + eN (stk (cN na * 4294967296) (cN nb)) - 300)) dL_share_99 (lN_i _) ?_
      refine g_sipush X (v := nI 150) dL_share_100 (by decide +kernel) ?_
      refine g_isub X (v := nI ((eN na + 268 - eN nb + eN (stk (cN na * 4294967296) (cN nb)) - 300) - 150)) dL_share_103 (pk_sub (by omega)) ?_
      refine g_bipush X (v := nI 23) dL_share_104 (by decide +kernel) ?_
      refine g_ishl X (v := nI (((eN na + 268 - eN nb + eN (stk (cN na * 4294967296) (cN nb)) - 300) - 150) * 8388608)) dL_share_106 (fo_shl (by omega)) ?_
      refine g_lload X 0 dL_share_107 rfl ?_
      refine g_ldc2 X kL_L_76 dL_share_109 ?_
      refine g_land X (v := lN (cN (stk (cN na * 4294967296) (cN nb)))) dL_share_112 (ce_c c32 (by omega)) ?_
      refine g_ldc2 X kL_L_78 dL_share_113 ?_
      refine g_lsub X (v := lN (cN (stk (cN na * 4294967296) (cN nb)) - 8388608)) dL_share_116 (lN_sub (a := cN _) (b := 8388608) (by omega)) ?_
      refine g_l2i X (v := nI (cN (stk (cN na * 4294967296) (cN nb)) - 8388608)) dL_share_117 (lN_i _) ?_
      refine g_iadd X (v := nI (((eN na + 268 - eN nb + eN (stk (cN na * 4294967296) (cN nb)) - 300) - 150) * 8388608 + (cN (stk (cN na * 4294967296) (cN nb)) - 8388608))) dL_share_118 (nI_add _ _) ?_
      refine g_iret X hr hlk hQ dL_share_119 ?_
      show g_eq _ _ _ _
      try rw [ev5]
      refine ⟨congrArg (fun z => some (Value.int z)) ?_, rfl⟩
      unfold shJ
      rw [if_neg (c := lN na = 0) (fun z => absurd ((pk_lEQ (by omega) (by decide)).mp (show lN na = lN 0 from z)) hz), hsv]
      unfold shN
      exact congrArg nI (congrArg (fun z => z * 8388608 + (cN (stk (cN na * 4294967296) (cN nb)) - 8388608)) (by omega))
    refine g_lj_ne X (tgt := 69) (pc1 := 61) dL_share_60 rfl dL_share_61 (by decide) (fun h4 => ?_) (fun h4 => ?_)
    · --
      refine g_lload X 0 dL_share_69 rfl ?_
      refine g_lconst X (v := 1) dL_share_71 (by decide +kernel) ?_
      refine g_lor X (v := (lN ((cN na * 4294967296) / cN nb)) ||| (1 : Int64)) dL_share_72 rfl ?_
      refine g_lv _ [4, 3] rfl ?_
      exact J6 _ (by rw [if_pos (c := ¬ (lN ((cN na * 4294967296) % cN nb)) = (0 : Int64)) h4])
    · --
      refine g_lload X 0 dL_share_64 rfl ?_
      refine g_goto X (tgt := 73) dL_share_66 (by decide) ?_
      refine g_lv _ [4, 3] rfl ?_
      exact J6 _ (by rw [if_neg (c := ¬ (lN ((cN na * 4294967296) % cN nb)) = (0 : Int64)) (fun z => z h4)])
theorem m_L_shareI (l : Launch) (D : va_G) (cI cJ cZ : ClassId) (a b : Int64) (hS : 0 ≤ a.toInt ∧ a.toInt * 16 ≤ b.toInt) : g_Ct l D cI cJ cZ yL_share cL_share 16 (some .int) rm_L_share 0 0 [.long a, .long b] ([]) (g_eq (some (.int (shJ a b))) ([])) := by
  obtain ⟨na, ha, ea⟩ := pk_lOf (x := a) (fun z => by rw [Int64.lt_iff_toInt_lt] at z; have : (0 : Int64).toInt = 0 := rfl; omega)
  obtain ⟨nb, hb, eb⟩ := pk_lOf (x := b) (fun z => by rw [Int64.lt_iff_toInt_lt] at z; have : (0 : Int64).toInt = 0 := rfl; omega)
  subst ea
  subst eb
  rw [pk_lT ha, pk_lT hb] at hS
  exact m_L_share l D cI cJ cZ na nb (Or.inr (by omega)) hb

/-! who is to blame, from the last well down -/
def bst (S : St) (i k r : Nat) : Nat := if S 11 (10 * i + k) ≤ 0 then r else if r = 0 then k + 1 else if S 11 (10 * i + k) < S 11 (10 * i + (r - 1)) then r else k + 1
def bdn (S : St) (i n0 m : Nat) : Nat := itr (fun j r => bst S i (n0 - 1 - j) r) 0 m
theorem bdn_s {S : St} {i n0 n : Nat} (h : n < n0) : bdn S i n0 (n0 - n) = bst S i n (bdn S i n0 (n0 - (n + 1))) := by
  rw [show n0 - n = (n0 - (n + 1)) + 1 by omega]
  show bst S i (n0 - 1 - (n0 - (n + 1))) _ = _
  rw [show n0 - 1 - (n0 - (n + 1)) = n by omega]
  rfl
theorem bdn_ok {S : St} {i n0 : Nat} : ∀ m, m ≤ n0 → bdn S i n0 m ≤ n0 ∧ (bdn S i n0 m = 0 → ∀ k, n0 - m ≤ k → k < n0 → S 11 (10 * i + k) ≤ 0) ∧ (0 < bdn S i n0 m → n0 - m ≤ bdn S i n0 m - 1 ∧ bdn S i n0 m - 1 < n0 ∧ ¬ S 11 (10 * i + (bdn S i n0 m - 1)) ≤ 0 ∧ (∀ k, n0 - m ≤ k → k < n0 → (S 11 (10 * i + k)).toInt ≤ (S 11 (10 * i + (bdn S i n0 m - 1))).toInt) ∧ (∀ k, n0 - m ≤ k → k < bdn S i n0 m - 1 → (S 11 (10 * i + k)).toInt < (S 11 (10 * i + (bdn S i n0 m - 1))).toInt))
  | 0, _ => by
    have e : bdn S i n0 0 = 0 := rfl
    rw [e]
    exact ⟨Nat.zero_le _, fun _ k h1 h2 => by omega, fun h => by omega⟩
  | m + 1, hm => by
    have ih := bdn_ok (S := S) (i := i) (n0 := n0) m (by omega)
    have e : bdn S i n0 (m + 1) = bst S i (n0 - 1 - m) (bdn S i n0 m) := rfl
    rw [e]
    obtain ⟨r, hr⟩ : ∃ r, r = bdn S i n0 m := ⟨_, rfl⟩
    rw [← hr] at ih ⊢
    obtain ⟨q, hq⟩ : ∃ q, q = n0 - 1 - m := ⟨_, rfl⟩
    rw [← hq]
    have hz : (0 : Int64).toInt = 0 := rfl
    unfold bst
    by_cases h1 : S 11 (10 * i + q) ≤ 0
    · rw [if_pos h1]
      have h1' := h1
      rw [z_le, hz] at h1'
      refine ⟨ih.1, fun h0 k hk1 hk2 => ?_, fun h0 => ?_⟩
      · by_cases hkq : k = q
        · rw [hkq]; exact h1
        · exact ih.2.1 h0 k (by omega) hk2
      · obtain ⟨a1, a2, a3, a4, a5⟩ := ih.2.2 h0
        have a3' := a3
        rw [z_le, hz] at a3'
        refine ⟨by omega, a2, a3, fun k hk1 hk2 => ?_, fun k hk1 hk2 => ?_⟩
        · by_cases hkq : k = q
          · rw [hkq]; omega
          · exact a4 k (by omega) hk2
        · by_cases hkq : k = q
          · rw [hkq]; omega
          · exact a5 k (by omega) hk2
    · rw [if_neg h1]
      have h1' := h1
      rw [z_le, hz] at h1'
      by_cases h2 : r = 0
      · rw [if_pos h2]
        refine ⟨by omega, fun h0 => by omega, fun _ => ?_⟩
        rw [Nat.add_sub_cancel]
        refine ⟨by omega, by omega, h1, fun k hk1 hk2 => ?_, fun k hk1 hk2 => by omega⟩
        by_cases hkq : k = q
        · rw [hkq]; omega
        · have := ih.2.1 h2 k (by omega) hk2
          rw [z_le, hz] at this
          omega
      · rw [if_neg h2]
        obtain ⟨a1, a2, a3, a4, a5⟩ := ih.2.2 (by omega)
        by_cases h3 : S 11 (10 * i + q) < S 11 (10 * i + (r - 1))
        · rw [if_pos h3]
          rw [z_lt] at h3
          refine ⟨ih.1, fun h0 => by omega, fun _ => ⟨by omega, a2, a3, fun k hk1 hk2 => ?_, fun k hk1 hk2 => ?_⟩⟩
          · by_cases hkq : k = q
            · rw [hkq]; omega
            · exact a4 k (by omega) hk2
          · by_cases hkq : k = q
            · rw [hkq]; omega
            · exact a5 k (by omega) hk2
        · rw [if_neg h3]
          rw [z_lt] at h3
          refine ⟨by omega, fun h0 => by omega, fun _ => ?_⟩
          rw [Nat.add_sub_cancel]
          refine ⟨by omega, by omega, h1, fun k hk1 hk2 => ?_, fun k hk1 hk2 => by omega⟩
          by_cases hkq : k = q
          · rw [hkq]; omega
          · have := a4 k (by omega) hk2
            omega
/-- the answer as an int: one below the number that is kept -/
def blI (S : St) (i n0 : Nat) : Int32 := dI (bdn S i n0 n0)
theorem dI_lt {r : Nat} (h : r < 1000) : dI r < 0 ↔ r = 0 := by
  cases r with
  | zero => exact ⟨fun _ => rfl, fun _ => by decide⟩
  | succ r =>
    rw [dI_s]
    exact ⟨fun z => absurd z (nI_nl0 (by omega)), fun z => by omega⟩
theorem dI_p {r : Nat} (h : ¬ r = 0) : dI r = nI (r - 1) := by
  obtain ⟨k, rfl⟩ : ∃ k, r = k + 1 := ⟨r - 1, by omega⟩
  rw [dI_s, Nat.add_sub_cancel]

theorem hV_L_blame : yL_blame.cls = RL ∧ yL_blame.cls ≠ "java/lang/invoke/MethodHandle" ∧ yL_blame.cls ≠ "java/lang/invoke/VarHandle" ∧ (parseMethodDescriptor yL_blame.desc).map (fun d => d.parameters.length) = some 3 := by decide +kernel
abbrev rm_L_blame : Room := { frames := 0, cells := 0, slots := 0, locals := 0 }
set_option maxRecDepth 100000 in
set_option maxHeartbeats 4000000 in
theorem m_L_blame (l : Launch) (D : va_G) (cI cJ cZ : ClassId) (y : Nat → Nat) (C : Cf) (N : Nat → Nat) (S : St) (Qk : Nat → Int64) (i : Nat) (hi : i < 3) (hn0 : N 0 ≤ 8) : g_Ct l D cI cJ cZ yL_blame cL_blame 5 (some .int) rm_L_blame 0 0 [.int (nI i), .ref (y 8), .ref (y 12)] (wL y cI cJ C N S Qk) (g_eq (some (.int (blI S i (N 0)))) (wL y cI cJ C N S Qk)) := by
  refine g_body RL [(0, .int (nI i)), (1, .ref (y 8)), (2, .ref (y 12))] kH_L rfl (Nat.le_of_ble_eq_true rfl) rfl ?_
  intro p e s m args below meth c A X hr hlk hmn Q hQ
  refine g_iconst X (v := (-1 : Int32)) dL_blame_0 (by decide +kernel) ?_
  refine g_st (st' := [.int (dI 0)]) (by skip; first | done | rfl) ?_
  refine g_istore_n X [(3, .int (dI 0)), (0, .int (nI i)), (1, .ref (y 8)), (2, .ref (y 12))] dL_blame_1 rfl (Nat.le_of_ble_eq_true rfl) rfl ?_
  refine g_aload_n X 3 dL_blame_2 rfl rfl ?_
  refine g_iconst X (v := nI 1) dL_blame_3 (by decide +kernel) ?_
  refine g_iald X 12 rfl (1) rfl (by omega) (Nat.le_of_ble_eq_true rfl) (v := nI (N 0)) rfl dL_blame_4 ?_
  refine g_iconst X (v := nI 1) dL_blame_5 (by decide +kernel) ?_
  refine g_isub X (v := dI (N 0)) dL_blame_6 rfl ?_
  refine g_istore X [(4, .int (dI (N 0))), (3, .int (dI 0)), (0, .int (nI i)), (1, .ref (y 8)), (2, .ref (y 12))] dL_blame_7 (Nat.le_of_ble_eq_true rfl) rfl ?_
  have L1 : ∀ (n2 : Nat) (a3 : Nat), n2 ≤ (N 0) → a3 = bdn S i (N 0) (N 0 - n2) → g_G p l e rm_L_blame s m args below meth c D A 5 0 0 Q (wL y cI cJ C N S Qk) [(0, .int (nI i)), (1, .ref (y 8)), (3, .int (dI a3)), (4, .int (dI n2))] 9 [] := by
    intro n2
    induction n2 with
    | zero =>
      intro a3 hi4 ea3
      have hbd := bdn_ok (S := S) (i := i) (n0 := N 0) (N 0 - 0) (by omega)
      rw [← ea3] at hbd
      have hbd1 := hbd.1
      refine g_iload X 3 dL_blame_9 rfl ?_
      refine g_if_lt X (tgt := 66) dL_blame_11 (by decide) (fun _ => ?_) (fun h => absurd (by decide) h)
      refine g_iload_n X 2 dL_blame_66 rfl rfl ?_
      refine g_iret X hr hlk hQ dL_blame_67 ?_
      show g_eq _ _ _ _
      try rw [ea3]
      exact ⟨rfl, rfl⟩
    | succ n2 ihL1 =>
      intro a3 hi4 ea3
      refine g_lvq (lv' := [(0, .int (nI i)), (1, .ref (y 8)), (3, .int (dI a3)), (4, .int (nI n2))]) (by rw [dI_s n2]) ?_
      have hltn2 : n2 < (N 0) := by omega
      have hbd := bdn_ok (S := S) (i := i) (n0 := N 0) (N 0 - (n2 + 1)) (by omega)
      rw [← ea3] at hbd
      have hbd1 := hbd.1
      refine g_iload X 3 dL_blame_9 rfl ?_
      refine g_if_lt X (tgt := 66) dL_blame_11 (by decide) (fun h => absurd h (nI_nl0 (by omega))) (fun _ => ?_)
      refine g_aload_n X 1 dL_blame_14 rfl rfl ?_
      refine g_bipush X (v := nI 8) dL_blame_15 (by decide +kernel) ?_
      refine g_iload_n X 0 dL_blame_17 rfl rfl ?_
      refine g_imul X (v := nI (8 * i)) dL_blame_18 (pk_mul _ _) ?_
      refine g_iload X 3 dL_blame_19 rfl ?_
      refine g_iadd X (v := nI (8 * i + n2)) dL_blame_21 ((nI_add _ _).trans (congrArg nI (by omega))) ?_
      refine g_lald X 8 rfl (8 * i + n2) rfl (by omega) (Nat.le_of_ble_eq_true rfl) (v := S 11 (10 * i + n2)) (lrA_r S i (n := n2) (by omega)) dL_blame_22 ?_
      refine g_lconst X (v := 0) dL_blame_23 (by decide +kernel) ?_
      refine g_lj_le X (tgt := 58) (pc1 := 25) dL_blame_24 rfl dL_blame_25 (by decide) (fun h5 => ?_) (fun h5 => ?_)
      · --
        refine g_iload_n X 2 dL_blame_58 rfl rfl ?_
        refine g_istore_n X [(3, .int (dI a3)), (0, .int (nI i)), (1, .ref (y 8)), (4, .int (nI n2))] dL_blame_59 rfl (Nat.le_of_ble_eq_true rfl) rfl ?_
        refine g_iinc X [(4, .int (dI n2)), (3, .int (dI a3)), (0, .int (nI i)), (1, .ref (y 8))] (q := 3) (v := dI n2) dL_blame_60 rfl (dI_inc _) (Nat.le_of_ble_eq_true rfl) rfl ?_
        refine g_goto X (tgt := 9) dL_blame_63 (by decide) ?_
        refine g_lv _ [2, 3, 1, 0] rfl ?_
        exact ihL1 _ (by omega) (by rw [bdn_s hltn2, ← ea3]; unfold bst; rw [if_pos h5])
      · --
        refine g_iload_n X 2 dL_blame_28 rfl rfl ?_
        refine g_if_lt X (tgt := 53) dL_blame_29 (by decide) (fun h6 => ?_) (fun h6 => ?_)
        · --
          refine g_iload X 3 dL_blame_53 rfl ?_
          refine g_st (st' := [.int (dI (n2 + 1))]) (by rw [dI_s]; first | done | rfl) ?_
          refine g_goto X (tgt := 59) dL_blame_55 (by decide) ?_
          refine g_istore_n X [(3, .int (dI (n2 + 1))), (0, .int (nI i)), (1, .ref (y 8)), (4, .int (nI n2))] dL_blame_59 rfl (Nat.le_of_ble_eq_true rfl) rfl ?_
          refine g_iinc X [(4, .int (dI n2)), (3, .int (dI (n2 + 1))), (0, .int (nI i)), (1, .ref (y 8))] (q := 3) (v := dI n2) dL_blame_60 rfl (dI_inc _) (Nat.le_of_ble_eq_true rfl) rfl ?_
          refine g_goto X (tgt := 9) dL_blame_63 (by decide) ?_
          refine g_lv _ [2, 3, 1, 0] rfl ?_
          exact ihL1 _ (by omega) (by rw [bdn_s hltn2, ← ea3]; unfold bst; rw [if_neg h5, if_pos ((dI_lt (r := a3) (by omega)).mp h6)])
        · --
          refine g_aload_n X 1 dL_blame_32 rfl rfl ?_
          refine g_bipush X (v := nI 8) dL_blame_33 (by decide +kernel) ?_
          refine g_iload_n X 0 dL_blame_35 rfl rfl ?_
          refine g_imul X (v := nI (8 * i)) dL_blame_36 (pk_mul _ _) ?_
          refine g_iload X 3 dL_blame_37 rfl ?_
          refine g_iadd X (v := nI (8 * i + n2)) dL_blame_39 ((nI_add _ _).trans (congrArg nI (by omega))) ?_
          refine g_lald X 8 rfl (8 * i + n2) rfl (by omega) (Nat.le_of_ble_eq_true rfl) (v := S 11 (10 * i + n2)) (lrA_r S i (n := n2) (by omega)) dL_blame_40 ?_
          refine g_aload_n X 1 dL_blame_41 rfl rfl ?_
          refine g_bipush X (v := nI 8) dL_blame_42 (by decide +kernel) ?_
          refine g_iload_n X 0 dL_blame_44 rfl rfl ?_
          refine g_imul X (v := nI (8 * i)) dL_blame_45 (pk_mul _ _) ?_
          refine g_iload_n X 2 dL_blame_46 rfl rfl ?_
          refine g_st (st' := [.int (nI (a3 - 1)), .int (nI (8 * i)), .ref (y 8), .long (S 11 (10 * i + n2))]) (by rw [dI_p (fun z => absurd ((dI_lt (by omega)).mpr z) (by assumption))]; first | done | rfl) ?_
          refine g_iadd X (v := nI (8 * i + (a3 - 1))) dL_blame_47 ((nI_add _ _).trans (congrArg nI (by omega))) ?_
          refine g_lald X 8 rfl (8 * i + (a3 - 1)) rfl (by omega) (Nat.le_of_ble_eq_true rfl) (v := S 11 (10 * i + (a3 - 1))) (lrA_r S i (n := (a3 - 1)) (by omega)) dL_blame_48 ?_
          refine g_lj_lt X (tgt := 58) (pc1 := 50) dL_blame_49 rfl dL_blame_50 (by decide) (fun h7 => ?_) (fun h7 => ?_)
          · --
            refine g_iload_n X 2 dL_blame_58 rfl rfl ?_
            refine g_istore_n X [(3, .int (dI a3)), (0, .int (nI i)), (1, .ref (y 8)), (4, .int (nI n2))] dL_blame_59 rfl (Nat.le_of_ble_eq_true rfl) rfl ?_
            refine g_iinc X [(4, .int (dI n2)), (3, .int (dI a3)), (0, .int (nI i)), (1, .ref (y 8))] (q := 3) (v := dI n2) dL_blame_60 rfl (dI_inc _) (Nat.le_of_ble_eq_true rfl) rfl ?_
            refine g_goto X (tgt := 9) dL_blame_63 (by decide) ?_
            refine g_lv _ [2, 3, 1, 0] rfl ?_
            exact ihL1 _ (by omega) (by rw [bdn_s hltn2, ← ea3]; unfold bst; rw [if_neg h5, if_neg (fun w => h6 ((dI_lt (r := a3) (by omega)).mpr w)), if_pos h7])
          · --
            refine g_iload X 3 dL_blame_53 rfl ?_
            refine g_st (st' := [.int (dI (n2 + 1))]) (by rw [dI_s]; first | done | rfl) ?_
            refine g_goto X (tgt := 59) dL_blame_55 (by decide) ?_
            refine g_istore_n X [(3, .int (dI (n2 + 1))), (0, .int (nI i)), (1, .ref (y 8)), (4, .int (nI n2))] dL_blame_59 rfl (Nat.le_of_ble_eq_true rfl) rfl ?_
            refine g_iinc X [(4, .int (dI n2)), (3, .int (dI (n2 + 1))), (0, .int (nI i)), (1, .ref (y 8))] (q := 3) (v := dI n2) dL_blame_60 rfl (dI_inc _) (Nat.le_of_ble_eq_true rfl) rfl ?_
            refine g_goto X (tgt := 9) dL_blame_63 (by decide) ?_
            refine g_lv _ [2, 3, 1, 0] rfl ?_
            exact ihL1 _ (by omega) (by rw [bdn_s hltn2, ← ea3]; unfold bst; rw [if_neg h5, if_neg (fun w => h6 ((dI_lt (r := a3) (by omega)).mpr w)), if_neg h7])
  refine g_lv _ [2, 3, 1, 0] rfl ?_
  exact L1 (N 0) _ (Nat.le_refl _) (by rw [Nat.sub_self]; first | done | rfl)
