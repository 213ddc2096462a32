theorem lsh_n {n k : Nat} (hn : n < 2 ^ 63) (hk : k < 64) : lN n >>> ((nI k).toInt64 &&& 63) = lN (n / 2 ^ k) := by
  rw [wb_c k hk]
  apply Int64.toInt_inj.mp
  rw [pk_lT (Nat.lt_of_le_of_lt (Nat.div_le_self _ _) hn)]
  show (BitVec.sshiftRight' (lN n).toBitVec ((lN k).toBitVec.smod 64)).toInt = _
  rw [wb_tb k, wb_sm k hk, BitVec.toInt_sshiftRight', BitVec.toNat_ofNat, Nat.mod_eq_of_lt (show k < 2 ^ 64 by omega)]
  show (lN n).toInt >>> k = _
  rw [pk_lT hn, Int.shiftRight_eq_div_pow]
  rfl
theorem rn_s {n s : Nat} (hn : n ≠ 0) : n / 2 ^ s ≤ 1 ↔ n.log2 ≤ s := by
  have h1 := Nat.log2_lt hn (k := s + 1)
  rw [Nat.pow_succ] at h1
  have h2 : n / 2 ^ s < 2 ↔ n < 2 * 2 ^ s := Nat.div_lt_iff_lt_mul (Nat.two_pow_pos s)
  omega
theorem rn_le {n s : Nat} (hn : n ≠ 0) (h63 : n < 2 ^ 63) : lN (n / 2 ^ s) ≤ 1 ↔ n.log2 ≤ s := by
  rw [show (1 : Int64) = lN 1 from rfl, pk_lLE (Nat.lt_of_le_of_lt (Nat.div_le_self _ _) h63) (by decide)]
  exact rn_s hn
theorem half_2 {B : Nat} (h : 0 < B) : 2 ^ B = 2 * 2 ^ (B - 1) := by
  rw [← Nat.pow_succ']
  exact congrArg (2 ^ ·) (by omega)
theorem rn_j {n B : Nat} (h63 : n < 2 ^ 63) (h0 : 0 < B) (hB : B < 63) : (if lN (2 ^ (B - 1)) < lN (n % 2 ^ B) then (1 : Int64) else if ¬ lN (n % 2 ^ B) = lN (2 ^ (B - 1)) then 0 else if ¬ lN (n / 2 ^ B % 2) = 1 then 0 else 1) = lN (FP.Core.nearest n (2 ^ B) - n / 2 ^ B) := by
  have hp : (2 : Nat) ^ B ≤ 2 ^ 62 := Nat.pow_le_pow_right (by decide) (by omega)
  have h2 := half_2 h0
  have hm : n % 2 ^ B < 2 ^ B := Nat.mod_lt _ (Nat.two_pow_pos B)
  unfold FP.Core.nearest
  obtain ⟨r, hr⟩ : ∃ r, r = n % 2 ^ B := ⟨_, rfl⟩
  obtain ⟨q, hq⟩ : ∃ q, q = n / 2 ^ B := ⟨_, rfl⟩
  rw [← hr] at hm
  rw [← hr, ← hq]
  have hd : q % 2 < 2 := Nat.mod_lt _ (by decide)
  have q1 := pk_lLT (a := 2 ^ (B - 1)) (b := r) (by omega) (by omega)
  have q2 := pk_lEQ (a := r) (b := 2 ^ (B - 1)) (by omega) (by omega)
  have q3 : lN (q % 2) = 1 ↔ q % 2 = 1 := pk_lEQ (a := q % 2) (b := 1) (by omega) (by decide)
  by_cases h1 : 2 ^ (B - 1) < r
  · rw [if_pos (q1.mpr h1), if_neg (by omega), if_pos (by omega), show q + 1 - q = 1 by omega]
    rfl
  · rw [if_neg (fun z => h1 (q1.mp z))]
    by_cases h3 : r = 2 ^ (B - 1)
    · rw [if_neg (fun z => z (q2.mpr h3)), if_neg (c := 2 * r < 2 ^ B) (by omega), if_neg (c := 2 ^ B < 2 * r) (by omega), show q + q % 2 - q = q % 2 by omega]
      by_cases h4 : q % 2 = 1
      · rw [if_neg (fun z => z (q3.mpr h4)), h4]
        rfl
      · rw [if_pos (fun z => h4 (q3.mp z)), show q % 2 = 0 by omega]
        rfl
    · rw [if_pos (fun z => h3 (q2.mp z)), if_pos (by omega), show q - q = 0 by omega]
      rfl
theorem nr_ge {n D : Nat} : n / D ≤ FP.Core.nearest n D := by
  unfold FP.Core.nearest
  (repeat' split) <;> omega
theorem p_by {P L : Nat} (h : 23 ≤ P + L) {pw : Int32} (hp : pw = nI P - nI 300) : pw + (nI L - nI 23) + nI 300 = nI (P + L - 23) := by
  have e : nI (P + L) = nI P + nI L := (nI_add P L).symm
  rw [hp, ← pk_sub h, e]
  grind
theorem p_by2 {P L : Nat} (h : 23 ≤ L) {pw : Int32} (hp : pw = nI P - nI 300) : pw + nI (L - 23) + nI 300 = nI (P + L - 23) := by
  rw [← pk_sub h]
  exact p_by (by omega) hp
theorem p_by3 {P L : Nat} (h : 23 ≤ L) {pw : Int32} (hp : pw = nI P - nI 300) : pw + Int32.ofInt 1 + nI (L - 23) + nI 300 = nI (P + L - 22) := by
  have e : pw + Int32.ofInt 1 = nI (P + 1) - nI 300 := by
    rw [hp, ← nI_add P 1]
    show nI P - nI 300 + nI 1 = _
    grind
  rw [p_by2 h e]
  exact congrArg nI (by omega)
theorem by_le {L : Nat} (hL : L < 63) : nI L - nI 23 ≤ 0 ↔ L ≤ 23 := by
  rw [Int32.le_iff_toInt_le, pk_sub_toInt (by omega) (by omega)]
  have : (0 : Int32).toInt = 0 := rfl
  omega

theorem hV_L_rounds : yL_rounds.cls = RL ∧ yL_rounds.cls ≠ "java/lang/invoke/MethodHandle" ∧ yL_rounds.cls ≠ "java/lang/invoke/VarHandle" ∧ (parseMethodDescriptor yL_rounds.desc).map (fun d => d.parameters.length) = some 2 := by decide +kernel
abbrev rm_L_rounds : Room := { frames := 0, cells := 0, slots := 0, locals := 0 }
set_option maxRecDepth 100000 in
set_option maxHeartbeats 4000000 in
theorem m_L_rounds (l : Launch) (D : va_G) (cI cJ cZ : ClassId) (n P : Nat) (pw : Int32) (hn : n ≠ 0) (h63 : n < 9223372036854775808) (hP : 100 ≤ P) (hP2 : P ≤ 1000) (hpw : pw = nI P - nI 300) : g_Ct l D cI cJ cZ yL_rounds cL_rounds 12 (some .long) rm_L_rounds 0 0 [.long (lN n), .int pw] ([]) (g_eq (some (.long (lN (cN n + (P + eN n - 300) * 16777216)))) ([])) := by
  refine g_body RL [(0, .long (lN n)), (2, .int pw)] kH_L rfl (Nat.le_of_ble_eq_true rfl) rfl ?_
  intro p e s m args below meth c A X hr hlk hmn Q hQ
  have hL : Nat.log2 n < 63 := (Nat.log2_lt hn).mpr h63
  have h63b : n < 2 ^ 63 := h63
  have hnr := nr_rng hn
  refine g_lload_n X 0 dL_rounds_0 rfl rfl ?_
  refine g_lstore_n X [(3, .long (lN n)), (0, .long (lN n)), (2, .int pw)] dL_rounds_1 rfl (Nat.le_of_ble_eq_true rfl) rfl ?_
  refine g_iload_n X 2 dL_rounds_2 rfl rfl ?_
  refine g_istore X [(5, .int pw), (3, .long (lN n)), (0, .long (lN n)), (2, .int pw)] dL_rounds_3 (Nat.le_of_ble_eq_true rfl) rfl ?_
  refine g_iconst X (v := nI 0) dL_rounds_5 (by decide +kernel) ?_
  refine g_istore X [(6, .int (nI 0)), (5, .int pw), (3, .long (lN n)), (0, .long (lN n)), (2, .int pw)] dL_rounds_6 (Nat.le_of_ble_eq_true rfl) rfl ?_
  have L1 : ∀ (n3 i2 : Nat) , i2 + n3 = (Nat.log2 n) → g_G p l e rm_L_rounds s m args below meth c D A 12 0 0 Q ([]) [(3, .long (lN n)), (5, .int pw), (6, .int (nI i2))] 8 [] := by
    intro n3
    induction n3 with
    | zero =>
      intro i2  hi4 
      obtain rfl : i2 = (Nat.log2 n) := by omega
      refine g_lload_n X 0 dL_rounds_8 rfl rfl ?_
      refine g_iload X 2 dL_rounds_9 rfl ?_
      refine g_lshr X (v := lN (n / 2 ^ (Nat.log2 n))) dL_rounds_11 (lsh_n h63b (by omega)) ?_
      refine g_lconst X (v := 1) dL_rounds_12 (by decide +kernel) ?_
      refine g_lj_le X (tgt := 23) (pc1 := 14) dL_rounds_13 rfl dL_rounds_14 (by decide) (fun h5 => ?_) (fun h5 => absurd ((rn_le hn h63).mpr (by omega)) h5)
      by_cases hs : (Nat.log2 n) ≤ 23
      · --
        refine g_iload X 2 dL_rounds_23 rfl ?_
        refine g_bipush X (v := nI 23) dL_rounds_25 (by decide +kernel) ?_
        refine g_isub X (v := nI (Nat.log2 n) - nI 23) dL_rounds_27 rfl ?_
        refine g_istore X [(7, .int (nI (Nat.log2 n) - nI 23)), (3, .long (lN n)), (5, .int pw), (6, .int (nI (Nat.log2 n)))] dL_rounds_28 (Nat.le_of_ble_eq_true rfl) rfl ?_
        refine g_iload X 0 dL_rounds_30 rfl ?_
        refine g_if_le X (tgt := 108) dL_rounds_32 (by decide) (fun h6 => ?_) (fun h6 => absurd ((by_le hL).mpr hs) h6)
        refine g_lload_n X 1 dL_rounds_108 rfl rfl ?_
        refine g_iload X 0 dL_rounds_109 rfl ?_
        refine g_ineg X (v := nI (23 - (Nat.log2 n))) dL_rounds_111 (by rw [← pk_sub hs, Int32.neg_sub]) ?_
        refine g_lshl X (v := lN (n * 2 ^ (23 - (Nat.log2 n)))) dL_rounds_112 (wb_shl _ (by omega)) ?_
        refine g_lstore_n X [(3, .long (lN (n * 2 ^ (23 - (Nat.log2 n))))), (7, .int (nI (Nat.log2 n) - nI 23)), (5, .int pw), (6, .int (nI (Nat.log2 n)))] dL_rounds_113 rfl (Nat.le_of_ble_eq_true rfl) rfl ?_
        refine g_lload_n X 0 dL_rounds_114 rfl rfl ?_
        refine g_iload X 2 dL_rounds_115 rfl ?_
        refine g_iload X 1 dL_rounds_117 rfl ?_
        refine g_iadd X (v := pw + (nI (Nat.log2 n) - nI 23)) dL_rounds_119 rfl ?_
        refine g_sipush X (v := nI 300) dL_rounds_120 (by decide +kernel) ?_
        refine g_iadd X (v := nI (P + (Nat.log2 n) - 23)) dL_rounds_123 (p_by (by omega) hpw) ?_
        refine g_i2l X (v := lN (P + (Nat.log2 n) - 23)) dL_rounds_124 (nI_l (by omega)) ?_
        refine g_bipush X (v := nI 24) dL_rounds_125 (by decide +kernel) ?_
        refine g_lshl X (v := lN ((P + (Nat.log2 n) - 23) * 2 ^ 24)) dL_rounds_127 (wb_shl _ (k := 24) (by decide)) ?_
        refine g_ladd X (v := lN ((n * 2 ^ (23 - (Nat.log2 n))) + ((P + (Nat.log2 n) - 23) * 2 ^ 24))) dL_rounds_128 (lN_add _ _) ?_
        refine g_lret X hr hlk hQ dL_rounds_129 ?_
        show g_eq _ _ _ _
        refine ⟨congrArg (fun z => some (Value.long (lN z))) ?_, rfl⟩
        unfold cN eN
        rw [if_pos hs, if_pos hs]
        omega
      · --
        refine g_iload X 2 dL_rounds_23 rfl ?_
        refine g_bipush X (v := nI 23) dL_rounds_25 (by decide +kernel) ?_
        refine g_isub X (v := nI ((Nat.log2 n) - 23)) dL_rounds_27 (by rw [pk_sub (by omega)]) ?_
        refine g_istore X [(7, .int (nI ((Nat.log2 n) - 23))), (3, .long (lN n)), (5, .int pw), (6, .int (nI (Nat.log2 n)))] dL_rounds_28 (Nat.le_of_ble_eq_true rfl) rfl ?_
        refine g_iload X 0 dL_rounds_30 rfl ?_
        refine g_iN_le X (a := ((Nat.log2 n) - 23)) (tgt := 108) (by omega) dL_rounds_32 (by decide) (fun h7 => absurd h7 (by omega)) (fun h7 => ?_)
        refine g_lload_n X 1 dL_rounds_35 rfl rfl ?_
        refine g_lconst X (v := 1) dL_rounds_36 (by decide +kernel) ?_
        refine g_iload X 0 dL_rounds_37 rfl ?_
        refine g_lshl X (v := lN (2 ^ ((Nat.log2 n) - 23))) dL_rounds_39 (by rw [show (1 : Int64) = lN 1 from rfl, wb_shl 1 (by omega), Nat.one_mul]) ?_
        refine g_lconst X (v := 1) dL_rounds_40 (by decide +kernel) ?_
        refine g_lsub X (v := lN (2 ^ ((Nat.log2 n) - 23) - 1)) dL_rounds_41 (lN_sub (Nat.two_pow_pos _)) ?_
        refine g_land X (v := lN (n % 2 ^ ((Nat.log2 n) - 23))) dL_rounds_42 (wb_mask (by omega) (by omega)) ?_
        refine g_lstore X [(8, .long (lN (n % 2 ^ ((Nat.log2 n) - 23)))), (7, .int (nI ((Nat.log2 n) - 23))), (3, .long (lN n)), (5, .int pw), (6, .int (nI (Nat.log2 n)))] dL_rounds_43 (Nat.le_of_ble_eq_true rfl) rfl ?_
        refine g_lconst X (v := 1) dL_rounds_45 (by decide +kernel) ?_
        refine g_iload X 1 dL_rounds_46 rfl ?_
        refine g_iconst X (v := nI 1) dL_rounds_48 (by decide +kernel) ?_
        refine g_isub X (v := nI ((Nat.log2 n) - 23 - 1)) dL_rounds_49 (by rw [pk_sub (show 1 ≤ Nat.log2 n - 23 by omega)]) ?_
        refine g_lshl X (v := lN (2 ^ ((Nat.log2 n) - 23 - 1))) dL_rounds_50 (by rw [show (1 : Int64) = lN 1 from rfl, wb_shl 1 (by omega), Nat.one_mul]) ?_
        refine g_lstore X [(10, .long (lN (2 ^ ((Nat.log2 n) - 23 - 1)))), (8, .long (lN (n % 2 ^ ((Nat.log2 n) - 23)))), (7, .int (nI ((Nat.log2 n) - 23))), (3, .long (lN n)), (5, .int pw), (6, .int (nI (Nat.log2 n)))] dL_rounds_51 (Nat.le_of_ble_eq_true rfl) rfl ?_
        refine g_lload_n X 3 dL_rounds_53 rfl rfl ?_
        refine g_iload X 2 dL_rounds_54 rfl ?_
        refine g_lshr X (v := lN (n / 2 ^ ((Nat.log2 n) - 23))) dL_rounds_56 (lsh_n h63b (by omega)) ?_
        refine g_lstore_n X [(3, .long (lN (n / 2 ^ ((Nat.log2 n) - 23)))), (10, .long (lN (2 ^ ((Nat.log2 n) - 23 - 1)))), (8, .long (lN (n % 2 ^ ((Nat.log2 n) - 23)))), (7, .int (nI ((Nat.log2 n) - 23))), (5, .int pw), (6, .int (nI (Nat.log2 n)))] dL_rounds_57 rfl (Nat.le_of_ble_eq_true rfl) rfl ?_
        refine g_lload_n X 0 dL_rounds_58 rfl rfl ?_
        refine g_lload X 2 dL_rounds_59 rfl ?_
        refine g_lload X 1 dL_rounds_61 rfl ?_
        have J12 : ∀ (v11 : Int64), v11 = (if (lN (2 ^ ((Nat.log2 n) - 23 - 1))) < (lN (n % 2 ^ ((Nat.log2 n) - 23))) then (1 : Int64) else if ¬ (lN (n % 2 ^ ((Nat.log2 n) - 23))) = (lN (2 ^ ((Nat.log2 n) - 23 - 1))) then (0 : Int64) else if ¬ (lN (n / 2 ^ ((Nat.log2 n) - 23) % 2)) = (1 : Int64) then (0 : Int64) else (1 : Int64)) → g_G p l e rm_L_rounds s m args below meth c D A 12 0 0 Q ([]) [(5, .int pw), (7, .int (nI ((Nat.log2 n) - 23)))] 88 [.long v11, .long (lN (n / 2 ^ ((Nat.log2 n) - 23)))] := by
          intro v11 ev11
          replace ev11 := ev11.trans (show _ = lN (FP.Core.nearest n (2 ^ ((Nat.log2 n) - 23)) - n / 2 ^ ((Nat.log2 n) - 23)) from rn_j h63b (by omega) (by omega))
          refine g_ladd X (v := lN (FP.Core.nearest n (2 ^ ((Nat.log2 n) - 23)))) dL_rounds_88 (by rw [ev11, lN_add]; exact congrArg lN (by have := nr_ge (n := n) (D := 2 ^ ((Nat.log2 n) - 23)); omega)) ?_
          refine g_lstore_n X [(3, .long (lN (FP.Core.nearest n (2 ^ ((Nat.log2 n) - 23))))), (5, .int pw), (7, .int (nI ((Nat.log2 n) - 23)))] dL_rounds_89 rfl (Nat.le_of_ble_eq_true rfl) rfl ?_
          by_cases hcr : FP.Core.nearest n (2 ^ ((Nat.log2 n) - 23)) = 16777216
          · --
            have hnn := hnr hs
            refine g_lload_n X 0 dL_rounds_90 rfl rfl ?_
            refine g_ldc2 X kL_L_70 dL_rounds_91 ?_
            refine g_lj_ne X (tgt := 105) (pc1 := 95) dL_rounds_94 rfl dL_rounds_95 (by decide) (fun h13 => absurd (by rw [hcr]; rfl) h13) (fun h13 => ?_)
            refine g_lload_n X 0 dL_rounds_98 rfl rfl ?_
            refine g_iconst X (v := nI 1) dL_rounds_99 (by decide +kernel) ?_
            refine g_lshr X (v := lN 8388608) dL_rounds_100 (by rw [hcr]; decide) ?_
            refine g_lstore_n X [(3, .long (lN 8388608)), (5, .int pw), (7, .int (nI ((Nat.log2 n) - 23)))] dL_rounds_101 rfl (Nat.le_of_ble_eq_true rfl) rfl ?_
            refine g_iinc X [(5, .int (pw + Int32.ofInt 1)), (3, .long (lN 8388608)), (7, .int (nI ((Nat.log2 n) - 23)))] (q := 1) (v := pw + Int32.ofInt 1) dL_rounds_102 rfl rfl (Nat.le_of_ble_eq_true rfl) rfl ?_
            refine g_goto X (tgt := 114) dL_rounds_105 (by decide) ?_
            refine g_lload_n X 1 dL_rounds_114 rfl rfl ?_
            refine g_iload X 0 dL_rounds_115 rfl ?_
            refine g_iload X 2 dL_rounds_117 rfl ?_
            refine g_iadd X (v := (pw + Int32.ofInt 1) + (nI ((Nat.log2 n) - 23))) dL_rounds_119 rfl ?_
            refine g_sipush X (v := nI 300) dL_rounds_120 (by decide +kernel) ?_
            refine g_iadd X (v := nI (P + (Nat.log2 n) - 22)) dL_rounds_123 (p_by3 (by omega) hpw) ?_
            refine g_i2l X (v := lN (P + (Nat.log2 n) - 22)) dL_rounds_124 (nI_l (by omega)) ?_
            refine g_bipush X (v := nI 24) dL_rounds_125 (by decide +kernel) ?_
            refine g_lshl X (v := lN ((P + (Nat.log2 n) - 22) * 2 ^ 24)) dL_rounds_127 (wb_shl _ (k := 24) (by decide)) ?_
            refine g_ladd X (v := lN (8388608 + ((P + (Nat.log2 n) - 22) * 2 ^ 24))) dL_rounds_128 (lN_add _ _) ?_
            refine g_lret X hr hlk hQ dL_rounds_129 ?_
            show g_eq _ _ _ _
            try rw [ev11]
            refine ⟨congrArg (fun z => some (Value.long (lN z))) ?_, rfl⟩
            unfold cN eN
            rw [if_neg hs, if_neg hs, if_pos hcr, if_pos hcr]
            omega
          · --
            have hnn := hnr hs
            refine g_lload_n X 0 dL_rounds_90 rfl rfl ?_
            refine g_ldc2 X kL_L_70 dL_rounds_91 ?_
            refine g_lj_ne X (tgt := 105) (pc1 := 95) dL_rounds_94 rfl dL_rounds_95 (by decide) (fun h14 => ?_) (fun h14 => absurd ((pk_lEQ (by omega) (by decide)).mp (show _ = lN 16777216 from h14)) hcr)
            refine g_goto X (tgt := 114) dL_rounds_105 (by decide) ?_
            refine g_lload_n X 0 dL_rounds_114 rfl rfl ?_
            refine g_iload X 1 dL_rounds_115 rfl ?_
            refine g_iload X 2 dL_rounds_117 rfl ?_
            refine g_iadd X (v := pw + (nI ((Nat.log2 n) - 23))) dL_rounds_119 rfl ?_
            refine g_sipush X (v := nI 300) dL_rounds_120 (by decide +kernel) ?_
            refine g_iadd X (v := nI (P + (Nat.log2 n) - 23)) dL_rounds_123 (p_by2 (by omega) hpw) ?_
            refine g_i2l X (v := lN (P + (Nat.log2 n) - 23)) dL_rounds_124 (nI_l (by omega)) ?_
            refine g_bipush X (v := nI 24) dL_rounds_125 (by decide +kernel) ?_
            refine g_lshl X (v := lN ((P + (Nat.log2 n) - 23) * 2 ^ 24)) dL_rounds_127 (wb_shl _ (k := 24) (by decide)) ?_
            refine g_ladd X (v := lN ((FP.Core.nearest n (2 ^ ((Nat.log2 n) - 23))) + ((P + (Nat.log2 n) - 23) * 2 ^ 24))) dL_rounds_128 (lN_add _ _) ?_
            refine g_lret X hr hlk hQ dL_rounds_129 ?_
            show g_eq _ _ _ _
            try rw [ev11]
            refine ⟨congrArg (fun z => some (Value.long (lN z))) ?_, rfl⟩
            unfold cN eN
            rw [if_neg hs, if_neg hs, if_neg hcr, if_neg hcr]
            omega
        refine g_lj_gt X (tgt := 83) (pc1 := 64) dL_rounds_63 rfl dL_rounds_64 (by decide) (fun h8 => ?_) (fun h8 => ?_)
        · --
          refine g_lconst X (v := 1) dL_rounds_83 (by decide +kernel) ?_
          refine g_goto X (tgt := 88) dL_rounds_84 (by decide) ?_
          refine g_lv _ [4, 3] rfl ?_
          exact J12 _ (by rw [if_pos (c := (lN (2 ^ ((Nat.log2 n) - 23 - 1))) < (lN (n % 2 ^ ((Nat.log2 n) - 23)))) h8])
        · --
          refine g_lload X 2 dL_rounds_67 rfl ?_
          refine g_lload X 1 dL_rounds_69 rfl ?_
          refine g_lj_ne X (tgt := 87) (pc1 := 72) dL_rounds_71 rfl dL_rounds_72 (by decide) (fun h9 => ?_) (fun h9 => ?_)
          · --
            refine g_lconst X (v := 0) dL_rounds_87 (by decide +kernel) ?_
            refine g_lv _ [4, 3] rfl ?_
            exact J12 _ (by rw [if_neg (c := (lN (2 ^ ((Nat.log2 n) - 23 - 1))) < (lN (n % 2 ^ ((Nat.log2 n) - 23)))) h8, if_pos (c := ¬ (lN (n % 2 ^ ((Nat.log2 n) - 23))) = (lN (2 ^ ((Nat.log2 n) - 23 - 1)))) h9])
          · --
            refine g_lload_n X 0 dL_rounds_75 rfl rfl ?_
            refine g_lconst X (v := 1) dL_rounds_76 (by decide +kernel) ?_
            refine g_land X (v := lN (n / 2 ^ ((Nat.log2 n) - 23) % 2)) dL_rounds_77 (wb_a1 (Nat.lt_of_le_of_lt (Nat.div_le_self _ _) (by omega))) ?_
            refine g_lconst X (v := 1) dL_rounds_78 (by decide +kernel) ?_
            refine g_lj_ne X (tgt := 87) (pc1 := 80) dL_rounds_79 rfl dL_rounds_80 (by decide) (fun h10 => ?_) (fun h10 => ?_)
            · --
              refine g_lconst X (v := 0) dL_rounds_87 (by decide +kernel) ?_
              refine g_lv _ [4, 3] rfl ?_
              exact J12 _ (by rw [if_neg (c := (lN (2 ^ ((Nat.log2 n) - 23 - 1))) < (lN (n % 2 ^ ((Nat.log2 n) - 23)))) h8, if_neg (c := ¬ (lN (n % 2 ^ ((Nat.log2 n) - 23))) = (lN (2 ^ ((Nat.log2 n) - 23 - 1)))) (fun z => z h9), if_pos (c := ¬ (lN (n / 2 ^ ((Nat.log2 n) - 23) % 2)) = (1 : Int64)) h10])
            · --
              refine g_lconst X (v := 1) dL_rounds_83 (by decide +kernel) ?_
              refine g_goto X (tgt := 88) dL_rounds_84 (by decide) ?_
              refine g_lv _ [4, 3] rfl ?_
              exact J12 _ (by rw [if_neg (c := (lN (2 ^ ((Nat.log2 n) - 23 - 1))) < (lN (n % 2 ^ ((Nat.log2 n) - 23)))) h8, if_neg (c := ¬ (lN (n % 2 ^ ((Nat.log2 n) - 23))) = (lN (2 ^ ((Nat.log2 n) - 23 - 1)))) (fun z => z h9), if_neg (c := ¬ (lN (n / 2 ^ ((Nat.log2 n) - 23) % 2)) = (1 : Int64)) (fun z => z h10)])
    | succ n3 ihL1 =>
      intro i2  hi4 
      have hlti2 : i2 < (Nat.log2 n) := by omega
      refine g_lload_n X 0 dL_rounds_8 rfl rfl ?_
      refine g_iload X 2 dL_rounds_9 rfl ?_
      refine g_lshr X (v := lN (n / 2 ^ i2)) dL_rounds_11 (lsh_n h63b (by omega)) ?_
      refine g_lconst X (v := 1) dL_rounds_12 (by decide +kernel) ?_
      refine g_lj_le X (tgt := 23) (pc1 := 14) dL_rounds_13 rfl dL_rounds_14 (by decide) (fun h15 => absurd ((rn_le hn h63).mp h15) (by omega)) (fun h15 => ?_)
      refine g_iinc X [(6, .int (nI (i2 + 1))), (3, .long (lN n)), (5, .int pw)] (q := 2) (v := nI (i2 + 1)) dL_rounds_17 rfl ((congrArg (fun z => nI (i2) + z) (show Int32.ofInt 1 = nI 1 by decide +kernel)).trans ((nI_add _ _).trans (congrArg nI (by omega)))) (Nat.le_of_ble_eq_true rfl) rfl ?_
      refine g_goto X (tgt := 8) dL_rounds_20 (by decide) ?_
      refine g_lv _ [1, 2, 0] rfl ?_
      exact ihL1 (i2 + 1)  (by omega) 
  refine g_lv _ [2, 1, 0] rfl ?_
  exact L1 ((Nat.log2 n)) 0  (by omega) 
