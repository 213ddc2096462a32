theorem rn_ne {C : Cf} {S : St} {b : Nat} (h : Wok (rnS C b S)) (hb : b < 12) {T : St} (e : T 0 = rnS C b S 0) : ¬ T 0 b + 20000 ≤ 0 := by
  rw [e]
  exact h.ne hb
/-- rain and warmth, as the reference has it -/
def raM (C : Cf) (b : Nat) (S : St) : St := if b ≤ 7 then S else u2 (u2 (u2 S 0 b (S 0 b + (C 10 0).toInt64)) 1 b (S 1 b + 80 * (C 10 0).toInt64)) 12 4 (S 12 4 + (C 10 0).toInt64)
theorem ra_m (C : Cf) (b : Nat) (S : St) : raM C b S = rnS C b S := by
  unfold raM rnS takeS
  by_cases h : b ≤ 7
  · rw [if_pos h, if_pos (by omega)]
  · rw [if_neg h, if_neg (by omega), Int64.mul_comm 80]
theorem wm_m (S : St) (b : Nat) : u2 S 1 b (S 1 b + (if 300 ≤ deg S b then 0 else 50 * (300 - deg S b))) = warmS S b := by
  unfold warmS
  by_cases h : 300 ≤ deg S b
  · rw [if_pos h, if_pos h, Int64.add_zero, u2_self]
  · rw [if_neg h, if_neg h]

theorem hV_X7_warms : yX7_warms.cls = RX7 ∧ yX7_warms.cls ≠ "java/lang/invoke/MethodHandle" ∧ yX7_warms.cls ≠ "java/lang/invoke/VarHandle" ∧ (parseMethodDescriptor yX7_warms.desc).map (fun d => d.parameters.length) = some 1 := by decide +kernel
abbrev rm_X7_warms : Room := { frames := 1, cells := 0, slots := 0, locals := 21 }
set_option maxRecDepth 100000 in
set_option maxHeartbeats 4000000 in
theorem m_X7_warms (l : Launch) (D : va_G) (cI cJ cZ : ClassId) (h : Nat → Nat) (th : Int32) (C : Cf) (N : Nat → Nat) (S : St) (Qk K P : Nat → Int64) (Y : St) (b : Nat) (hb : b < 12) (hW : Wok (rnS C b S)) : g_Ct l D cI cJ cZ yX7_warms cX7_warms 2 none rm_X7_warms 0 0 [.ref (h 0), .int (nI b)] (wM h cI cJ cZ th C N S Qk K P Y) (g_eq none (wM h cI cJ cZ th C N (raS C b S) Qk K P Y)) := by
  refine g_body RX7 [(0, .ref (h 0)), (1, .int (nI b))] kH_X7 rfl (Nat.le_of_ble_eq_true rfl) rfl ?_
  intro p e s m args below meth c A X hr hlk hmn Q hQ
  refine g_iload_n X 1 dX7_warms_0 rfl rfl ?_
  refine g_bipush X (v := nI 7) dX7_warms_1 (by decide +kernel) ?_
  have J6 : ∀ (S5 : St), S5 = (if b ≤ 7 then S else (u2 (u2 (u2 S 0 b ((S 0 b) + ((C 10 0).toInt64))) 1 b (((u2 S 0 b ((S 0 b) + ((C 10 0).toInt64))) 1 b) + ((80 : Int64) * ((C 10 0).toInt64)))) 12 4 (((u2 (u2 S 0 b ((S 0 b) + ((C 10 0).toInt64))) 1 b (((u2 S 0 b ((S 0 b) + ((C 10 0).toInt64))) 1 b) + ((80 : Int64) * ((C 10 0).toInt64)))) 12 4) + ((C 10 0).toInt64)))) → g_G p l e rm_X7_warms s m args below meth c D A 2 0 0 Q (wM h cI cJ cZ th C N S5 Qk K P Y) [(0, .ref (h 0)), (1, .int (nI b))] 59 [] := by
    intro S5 eS5
    replace eS5 : S5 = rnS C b S := by rw [eS5]; first | done | exact ra_m C b S
    refine g_aload_n X 0 dX7_warms_59 rfl rfl ?_
    refine g_get X (C := RX7) (T := TX7) (N := 21) (v := .ref (h 1)) inlX7 0 rfl rfl 1 (Nat.le_of_ble_eq_true rfl) kF_X7_7 rfl dX7_warms_60 ?_
    refine g_bipush X (v := nI 12) dX7_warms_63 (by decide +kernel) ?_
    refine g_iload_n X 1 dX7_warms_65 rfl rfl ?_
    refine g_iadd X (v := nI (b + 12)) dX7_warms_66 ((nI_add _ _).trans (congrArg nI (by omega))) ?_
    refine g_dup2_11 X dX7_warms_67 rfl rfl ?_
    refine g_lald X 1 rfl (12 + b) (congrArg nI (show b + 12 = 12 + b by omega)) (by omega) (Nat.le_of_ble_eq_true rfl) (v := S5 1 b) (fl_1 _ _ (i := b) (by omega)) dX7_warms_68 ?_
    refine g_aload_n X 0 dX7_warms_69 rfl rfl ?_
    refine g_iload_n X 1 dX7_warms_70 rfl rfl ?_
    refine g_callV X (As := [.int (nI b)]) (rest := [.long (S5 1 b), .int (nI (b + 12)), .ref (h 1)]) (m_X7_degrees l D cI cJ cZ h th C N S5 Qk K P Y b hb (by rw [eS5]; exact hW.ne hb)) kM_X7_111 kI_yX7_degrees kS_yX7_degrees kZ_RX7 kC_yX7_degrees hV_X7_degrees rfl rfl rfl 0 rfl (ci := 7) rfl ⟨Nat.le_of_ble_eq_true rfl, Nat.le_of_ble_eq_true rfl⟩ ⟨Nat.le_of_ble_eq_true rfl, Nat.le_of_ble_eq_true rfl⟩ (Nat.le_of_ble_eq_true rfl) dX7_warms_71 rfl [0, 1, 2, 3, 4, 5, 6, 7, 8, 9, 10, 11, 12, 13, 14, 15, 16] rfl rfl (g_kk1 (w2 := wM h cI cJ cZ th C N S5 Qk K P Y) ⟨[0, 1, 2, 3, 4, 5, 6, 7, 8, 9, 10, 11, 12, 13, 14, 15, 16], [], [0, 1, 2, 3, 4, 5, 6, 7, 8, 9, 10, 11, 12, 13, 14, 15, 16], [], rfl, rfl, rfl, rfl, by decide, rfl, rfl⟩ ?_)
    refine g_ldc2 X kL_X7_157 dX7_warms_74 ?_
    have J9 : ∀ (v8 : Int64), v8 = (if (300 : Int64) ≤ (deg S5 b) then (0 : Int64) else (50 : Int64) * ((300 : Int64) - (deg S5 b))) → g_G p l e rm_X7_warms s m args below meth c D A 2 0 0 Q (wM h cI cJ cZ th C N S5 Qk K P Y) [] 98 [.long v8, .long (S5 1 b), .int (nI (b + 12)), .ref (h 1)] := by
      intro v8 ev8
      refine g_ladd X (v := (S5 1 b) + v8) dX7_warms_98 rfl ?_
      obtain ⟨S10, eS10⟩ : ∃ z : St, z = u2 S5 1 b ((S5 1 b) + v8) := ⟨_, rfl⟩
      refine g_last X (ws' := wM h cI cJ cZ th C N S10 Qk K P Y) 1 rfl (12 + b) (congrArg nI (show b + 12 = 12 + b by omega)) (by omega) (Nat.le_of_ble_eq_true rfl) dX7_warms_99 (by rw [eS10]; first | done | (rw [flu_1 _ _ (i := b) _ (by omega)]; rfl)) ?_
      refine g_vret X hr hlk hQ dX7_warms_100 ?_
      show g_eq _ _ _ _
      try rw [eS10]
      try rw [ev8]
      try rw [eS5]
      refine ⟨rfl, ?_⟩
      exact congrArg (fun z => wM h cI cJ cZ th C N z Qk K P Y) (wm_m (rnS C b S) b)
    refine g_lj_ge X (tgt := 97) (pc1 := 78) dX7_warms_77 rfl dX7_warms_78 (by decide) (fun h7 => ?_) (fun h7 => ?_)
    · --
      refine g_lconst X (v := 0) dX7_warms_97 (by decide +kernel) ?_
      refine g_lv _ [] rfl ?_
      exact J9 _ (by rw [if_pos (c := (300 : Int64) ≤ (deg S5 b)) h7])
    · --
      refine g_ldc2 X kL_X7_159 dX7_warms_81 ?_
      refine g_ldc2 X kL_X7_157 dX7_warms_84 ?_
      refine g_aload_n X 0 dX7_warms_87 rfl rfl ?_
      refine g_iload_n X 1 dX7_warms_88 rfl rfl ?_
      refine g_callV X (As := [.int (nI b)]) (rest := [.long (300 : Int64), .long (50 : Int64), .long (S5 1 b), .int (nI (b + 12)), .ref (h 1)]) (m_X7_degrees l D cI cJ cZ h th C N S5 Qk K P Y b hb (by rw [eS5]; exact hW.ne hb)) kM_X7_111 kI_yX7_degrees kS_yX7_degrees kZ_RX7 kC_yX7_degrees hV_X7_degrees rfl rfl rfl 0 rfl (ci := 7) rfl ⟨Nat.le_of_ble_eq_true rfl, Nat.le_of_ble_eq_true rfl⟩ ⟨Nat.le_of_ble_eq_true rfl, Nat.le_of_ble_eq_true rfl⟩ (Nat.le_of_ble_eq_true rfl) dX7_warms_89 rfl [0, 1, 2, 3, 4, 5, 6, 7, 8, 9, 10, 11, 12, 13, 14, 15, 16] rfl rfl (g_kk1 (w2 := wM h cI cJ cZ th C N S5 Qk K P Y) ⟨[0, 1, 2, 3, 4, 5, 6, 7, 8, 9, 10, 11, 12, 13, 14, 15, 16], [], [0, 1, 2, 3, 4, 5, 6, 7, 8, 9, 10, 11, 12, 13, 14, 15, 16], [], rfl, rfl, rfl, rfl, by decide, rfl, rfl⟩ ?_)
      refine g_lsub X (v := (300 : Int64) - (deg S5 b)) dX7_warms_92 rfl ?_
      refine g_lmul X (v := (50 : Int64) * ((300 : Int64) - (deg S5 b))) dX7_warms_93 rfl ?_
      refine g_goto X (tgt := 98) dX7_warms_94 (by decide) ?_
      refine g_lv _ [] rfl ?_
      exact J9 _ (by rw [if_neg (c := (300 : Int64) ≤ (deg S5 b)) h7])
  refine g_icN_le X (a := b) (b := 7) (tgt := 59) (by omega) (by omega) dX7_warms_3 (by decide) (fun h1 => ?_) (fun h1 => ?_)
  · --
    exact J6 _ (by rw [if_pos (c := b ≤ 7) h1])
  · --
    refine g_aload_n X 0 dX7_warms_6 rfl rfl ?_
    refine g_get X (C := RX7) (T := TX7) (N := 21) (v := .ref (h 1)) inlX7 0 rfl rfl 1 (Nat.le_of_ble_eq_true rfl) kF_X7_7 rfl dX7_warms_7 ?_
    refine g_iconst X (v := nI 0) dX7_warms_10 (by decide +kernel) ?_
    refine g_iload_n X 1 dX7_warms_11 rfl rfl ?_
    refine g_iadd X (v := nI b) dX7_warms_12 ((nI_add _ _).trans (congrArg nI (by omega))) ?_
    refine g_dup2_11 X dX7_warms_13 rfl rfl ?_
    refine g_lald X 1 rfl (0 + b) (congrArg nI (show b = 0 + b by omega)) (by omega) (Nat.le_of_ble_eq_true rfl) (v := S 0 b) (fl_0 _ _ (i := b) (by omega)) dX7_warms_14 ?_
    refine g_aload_n X 0 dX7_warms_15 rfl rfl ?_
    refine g_get X (C := RX7) (T := TX7) (N := 21) (v := .int (C 10 0)) inlX7 0 rfl rfl 5 (Nat.le_of_ble_eq_true rfl) kF_X7_96 rfl dX7_warms_16 ?_
    refine g_i2l X (v := (C 10 0).toInt64) dX7_warms_19 rfl ?_
    refine g_ladd X (v := (S 0 b) + ((C 10 0).toInt64)) dX7_warms_20 rfl ?_
    obtain ⟨S2, eS2⟩ : ∃ z : St, z = u2 S 0 b ((S 0 b) + ((C 10 0).toInt64)) := ⟨_, rfl⟩
    refine g_last X (ws' := wM h cI cJ cZ th C N S2 Qk K P Y) 1 rfl (0 + b) (congrArg nI (show b = 0 + b by omega)) (by omega) (Nat.le_of_ble_eq_true rfl) dX7_warms_21 (by rw [eS2]; first | done | (rw [flu_0 _ _ (i := b) _ (by omega)]; rfl)) ?_
    refine g_aload_n X 0 dX7_warms_22 rfl rfl ?_
    refine g_get X (C := RX7) (T := TX7) (N := 21) (v := .ref (h 1)) inlX7 0 rfl rfl 1 (Nat.le_of_ble_eq_true rfl) kF_X7_7 rfl dX7_warms_23 ?_
    refine g_bipush X (v := nI 12) dX7_warms_26 (by decide +kernel) ?_
    refine g_iload_n X 1 dX7_warms_28 rfl rfl ?_
    refine g_iadd X (v := nI (b + 12)) dX7_warms_29 ((nI_add _ _).trans (congrArg nI (by omega))) ?_
    refine g_dup2_11 X dX7_warms_30 rfl rfl ?_
    refine g_lald X 1 rfl (12 + b) (congrArg nI (show b + 12 = 12 + b by omega)) (by omega) (Nat.le_of_ble_eq_true rfl) (v := S2 1 b) (fl_1 _ _ (i := b) (by omega)) dX7_warms_31 ?_
    refine g_ldc2 X kL_X7_155 dX7_warms_32 ?_
    refine g_aload_n X 0 dX7_warms_35 rfl rfl ?_
    refine g_get X (C := RX7) (T := TX7) (N := 21) (v := .int (C 10 0)) inlX7 0 rfl rfl 5 (Nat.le_of_ble_eq_true rfl) kF_X7_96 rfl dX7_warms_36 ?_
    refine g_i2l X (v := (C 10 0).toInt64) dX7_warms_39 rfl ?_
    refine g_lmul X (v := (80 : Int64) * ((C 10 0).toInt64)) dX7_warms_40 rfl ?_
    refine g_ladd X (v := (S2 1 b) + ((80 : Int64) * ((C 10 0).toInt64))) dX7_warms_41 rfl ?_
    obtain ⟨S3, eS3⟩ : ∃ z : St, z = u2 S2 1 b ((S2 1 b) + ((80 : Int64) * ((C 10 0).toInt64))) := ⟨_, rfl⟩
    refine g_last X (ws' := wM h cI cJ cZ th C N S3 Qk K P Y) 1 rfl (12 + b) (congrArg nI (show b + 12 = 12 + b by omega)) (by omega) (Nat.le_of_ble_eq_true rfl) dX7_warms_42 (by rw [eS3]; first | done | (rw [flu_1 _ _ (i := b) _ (by omega)]; rfl)) ?_
    refine g_aload_n X 0 dX7_warms_43 rfl rfl ?_
    refine g_get X (C := RX7) (T := TX7) (N := 21) (v := .ref (h 1)) inlX7 0 rfl rfl 1 (Nat.le_of_ble_eq_true rfl) kF_X7_7 rfl dX7_warms_44 ?_
    refine g_sipush X (v := nI 150) dX7_warms_47 (by decide +kernel) ?_
    refine g_dup2_11 X dX7_warms_50 rfl rfl ?_
    refine g_lald X 1 rfl (146 + 4) (congrArg nI (show 150 = 146 + 4 by omega)) (by omega) (Nat.le_of_ble_eq_true rfl) (v := S3 12 4) (fl_12 _ _ (i := 4) (by omega)) dX7_warms_51 ?_
    refine g_aload_n X 0 dX7_warms_52 rfl rfl ?_
    refine g_get X (C := RX7) (T := TX7) (N := 21) (v := .int (C 10 0)) inlX7 0 rfl rfl 5 (Nat.le_of_ble_eq_true rfl) kF_X7_96 rfl dX7_warms_53 ?_
    refine g_i2l X (v := (C 10 0).toInt64) dX7_warms_56 rfl ?_
    refine g_ladd X (v := (S3 12 4) + ((C 10 0).toInt64)) dX7_warms_57 rfl ?_
    obtain ⟨S4, eS4⟩ : ∃ z : St, z = u2 S3 12 4 ((S3 12 4) + ((C 10 0).toInt64)) := ⟨_, rfl⟩
    refine g_last X (ws' := wM h cI cJ cZ th C N S4 Qk K P Y) 1 rfl (146 + 4) (congrArg nI (show 150 = 146 + 4 by omega)) (by omega) (Nat.le_of_ble_eq_true rfl) dX7_warms_58 (by rw [eS4]; first | done | (rw [flu_12 _ _ (i := 4) _ (by omega)]; rfl)) ?_
    exact J6 _ (by (try rw [eS4]); (try rw [eS3]); (try rw [eS2]); rw [if_neg (c := b ≤ 7) h1])
/-- a spring, as the reference has it -/
def feM (S : St) (b k : Nat) (x : Int64) : St := u2 (u2 (u2 (giveS S b x) 9 k x) 12 3 (giveS S b x 12 3 + x)) 10 k (if x ≤ 0 then giveS S b x 10 k + 1 else 0)
def clrM (k : Nat) (x : Int64) (S : St) : St := if x ≤ 0 then S else clrS k S 10
theorem clr_12 (k : Nat) (T : St) (y : Int64) : ∀ n, clrS k (u2 T 12 3 y) n = u2 (clrS k T n) 12 3 y
  | 0 => rfl
  | n + 1 => by
    show u2 (clrS k (u2 T 12 3 y) n) 11 _ 0 = u2 (u2 (clrS k T n) 11 _ 0) 12 3 y
    rw [clr_12 k T y n, u2_sort _ _ _ _ _ (by decide)]
theorem fe_m (C : Cf) (S : St) (k : Nat) : clrM k (feG C S k) (feM S (spN C k) k (feG C S k)) = feS C k S := by
  unfold feS
  rw [note_c (by decide) (by decide) (by decide)]
  unfold clrM feM noteS
  by_cases h : feG C S k ≤ 0
  · rw [if_pos h, if_pos h, if_pos h, u2_sort _ _ _ _ _ (show 10 < 12 by decide)]
  · rw [if_neg h, if_neg h, if_neg h, u2_sort _ _ _ _ _ (show 10 < 12 by decide), clr_12]

theorem hV_X7_springs : yX7_springs.cls = RX7 ∧ yX7_springs.cls ≠ "java/lang/invoke/MethodHandle" ∧ yX7_springs.cls ≠ "java/lang/invoke/VarHandle" ∧ (parseMethodDescriptor yX7_springs.desc).map (fun d => d.parameters.length) = some 1 := by decide +kernel
abbrev rm_X7_springs : Room := { frames := 2, cells := 0, slots := 0, locals := 46 }
set_option maxRecDepth 100000 in
set_option maxHeartbeats 4000000 in
theorem m_X7_springs (l : Launch) (D : va_G) (cI cJ cZ : ClassId) (h : Nat → Nat) (th : Int32) (C : Cf) (N : Nat → Nat) (S : St) (Qk K P : Nat → Int64) (Y : St) (k : Nat) (hC : Cok C N) (hW : Wok S) (hk : k < N 2) : g_Ct l D cI cJ cZ yX7_springs cX7_springs 6 none rm_X7_springs 0 0 [.ref (h 0), .int (nI k)] (wM h cI cJ cZ th C N S Qk K P Y) (g_eq none (wM h cI cJ cZ th C N (feS C k S) Qk K P Y)) := by
  refine g_body RX7 [(0, .ref (h 0)), (1, .int (nI k))] kH_X7 rfl (Nat.le_of_ble_eq_true rfl) rfl ?_
  intro p e s m args below meth c A X hr hlk hmn Q hQ
  have hN0 := hC.n0
  have hN1 := hC.n1
  have hN2 := hC.n2
  have hs := (hC.sp hk).2
  refine g_aload_n X 0 dX7_springs_0 rfl rfl ?_
  refine g_get X (C := RX7) (T := TX7) (N := 21) (v := .ref (h 11)) inlX7 0 rfl rfl 15 (Nat.le_of_ble_eq_true rfl) kF_X7_42 rfl dX7_springs_1 ?_
  refine g_iload_n X 1 dX7_springs_4 rfl rfl ?_
  refine g_iald X 11 rfl (k) rfl (by omega) (Nat.le_of_ble_eq_true rfl) (v := nI (spN C k)) (hC.sp hk).1 dX7_springs_5 ?_
  refine g_istore_n X [(2, .int (nI (spN C k))), (0, .ref (h 0)), (1, .int (nI k))] dX7_springs_6 rfl (Nat.le_of_ble_eq_true rfl) rfl ?_
  refine g_aload_n X 1 dX7_springs_7 rfl rfl ?_
  refine g_get X (C := RX7) (T := TX7) (N := 21) (v := .ref (h 1)) inlX7 0 rfl rfl 1 (Nat.le_of_ble_eq_true rfl) kF_X7_7 rfl dX7_springs_8 ?_
  refine g_iconst X (v := nI 0) dX7_springs_11 (by decide +kernel) ?_
  refine g_iload_n X 0 dX7_springs_12 rfl rfl ?_
  refine g_iadd X (v := nI (spN C k)) dX7_springs_13 ((nI_add _ _).trans (congrArg nI (by omega))) ?_
  refine g_lald X 1 rfl (0 + (spN C k)) (congrArg nI (show spN C k = 0 + (spN C k) by omega)) (by omega) (Nat.le_of_ble_eq_true rfl) (v := S 0 (spN C k)) (fl_0 _ _ (i := spN C k) (by omega)) dX7_springs_14 ?_
  refine g_aload_n X 1 dX7_springs_15 rfl rfl ?_
  refine g_get X (C := RX7) (T := TX7) (N := 21) (v := .ref (h 12)) inlX7 0 rfl rfl 16 (Nat.le_of_ble_eq_true rfl) kF_X7_45 rfl dX7_springs_16 ?_
  refine g_iload_n X 2 dX7_springs_19 rfl rfl ?_
  refine g_iald X 12 rfl (k) rfl (by omega) (Nat.le_of_ble_eq_true rfl) (v := C 8 k) rfl dX7_springs_20 ?_
  refine g_i2l X (v := (C 8 k).toInt64) dX7_springs_21 rfl ?_
  have J3 : ∀ (v2 : Int64), v2 = (if (S 0 (spN C k)) < ((C 8 k).toInt64) then (0 : Int64) else if (50 : Int64) < ((S 0 (spN C k)) / (100 : Int64)) then (50 : Int64) else (S 0 (spN C k)) / (100 : Int64)) → g_G p l e rm_X7_springs s m args below meth c D A 6 0 0 Q (wM h cI cJ cZ th C N S Qk K P Y) [(0, .ref (h 0)), (1, .int (nI k)), (2, .int (nI (spN C k)))] 48 [.long v2] := by
    intro v2 ev2
    replace ev2 := ev2.trans (show _ = feG C S k from rfl)
    refine g_lstore_n X [(3, .long v2), (0, .ref (h 0)), (1, .int (nI k)), (2, .int (nI (spN C k)))] dX7_springs_48 rfl (Nat.le_of_ble_eq_true rfl) rfl ?_
    refine g_aload_n X 1 dX7_springs_49 rfl rfl ?_
    refine g_iload_n X 3 dX7_springs_50 rfl rfl ?_
    refine g_lload_n X 0 dX7_springs_51 rfl rfl ?_
    obtain ⟨S4, eS4⟩ : ∃ z : St, z = giveS S (spN C k) v2 := ⟨_, rfl⟩
    refine g_callV X (As := [.int (nI (spN C k)), .long v2]) (rest := []) (m_X7_gives l D cI cJ cZ h th C N S Qk K P Y (spN C k) v2 hs hW) kM_X7_133 kI_yX7_gives kS_yX7_gives kZ_RX7 kC_yX7_gives hV_X7_gives rfl rfl rfl 0 rfl (ci := 7) rfl ⟨Nat.le_of_ble_eq_true rfl, Nat.le_of_ble_eq_true rfl⟩ ⟨Nat.le_of_ble_eq_true rfl, Nat.le_of_ble_eq_true rfl⟩ (Nat.le_of_ble_eq_true rfl) dX7_springs_52 rfl [0, 1, 2, 3, 4, 5, 6, 7, 8, 9, 10, 11, 12, 13, 14, 15, 16] rfl rfl (g_kk1 (w2 := wM h cI cJ cZ th C N S4 Qk K P Y) (by rw [eS4]; exact ⟨[0, 1, 2, 3, 4, 5, 6, 7, 8, 9, 10, 11, 12, 13, 14, 15, 16], [], [0, 1, 2, 3, 4, 5, 6, 7, 8, 9, 10, 11, 12, 13, 14, 15, 16], [], rfl, rfl, rfl, rfl, by decide, rfl, rfl⟩) ?_)
    refine g_pop2_2 X dX7_springs_55 rfl ?_
    refine g_aload_n X 1 dX7_springs_56 rfl rfl ?_
    refine g_get X (C := RX7) (T := TX7) (N := 21) (v := .ref (h 1)) inlX7 0 rfl rfl 1 (Nat.le_of_ble_eq_true rfl) kF_X7_7 rfl dX7_springs_57 ?_
    refine g_bipush X (v := nI 98) dX7_springs_60 (by decide +kernel) ?_
    refine g_iload_n X 2 dX7_springs_62 rfl rfl ?_
    refine g_iadd X (v := nI (k + 98)) dX7_springs_63 ((nI_add _ _).trans (congrArg nI (by omega))) ?_
    refine g_lload_n X 0 dX7_springs_64 rfl rfl ?_
    obtain ⟨S5, eS5⟩ : ∃ z : St, z = u2 S4 9 k v2 := ⟨_, rfl⟩
    refine g_last X (ws' := wM h cI cJ cZ th C N S5 Qk K P Y) 1 rfl (98 + k) (congrArg nI (show k + 98 = 98 + k by omega)) (by omega) (Nat.le_of_ble_eq_true rfl) dX7_springs_65 (by rw [eS5]; first | done | (rw [flu_9 _ _ (i := k) _ (by omega)]; rfl)) ?_
    refine g_aload_n X 1 dX7_springs_66 rfl rfl ?_
    refine g_get X (C := RX7) (T := TX7) (N := 21) (v := .ref (h 1)) inlX7 0 rfl rfl 1 (Nat.le_of_ble_eq_true rfl) kF_X7_7 rfl dX7_springs_67 ?_
    refine g_sipush X (v := nI 149) dX7_springs_70 (by decide +kernel) ?_
    refine g_dup2_11 X dX7_springs_73 rfl rfl ?_
    refine g_lald X 1 rfl (146 + 3) (congrArg nI (show 149 = 146 + 3 by omega)) (by omega) (Nat.le_of_ble_eq_true rfl) (v := S4 12 3) ((fl_12 _ _ (i := 3) (by omega)).trans (by rw [eS5]; exact congrFun (u2_c _ _ _ (by decide)) _)) dX7_springs_74 ?_
    refine g_lload_n X 0 dX7_springs_75 rfl rfl ?_
    refine g_ladd X (v := (S4 12 3) + v2) dX7_springs_76 rfl ?_
    obtain ⟨S6, eS6⟩ : ∃ z : St, z = u2 S5 12 3 ((S4 12 3) + v2) := ⟨_, rfl⟩
    refine g_last X (ws' := wM h cI cJ cZ th C N S6 Qk K P Y) 1 rfl (146 + 3) (congrArg nI (show 149 = 146 + 3 by omega)) (by omega) (Nat.le_of_ble_eq_true rfl) dX7_springs_77 (by rw [eS6]; first | done | (rw [flu_12 _ _ (i := 3) _ (by omega)]; rfl)) ?_
    refine g_aload_n X 1 dX7_springs_78 rfl rfl ?_
    refine g_get X (C := RX7) (T := TX7) (N := 21) (v := .ref (h 1)) inlX7 0 rfl rfl 1 (Nat.le_of_ble_eq_true rfl) kF_X7_7 rfl dX7_springs_79 ?_
    refine g_bipush X (v := nI 102) dX7_springs_82 (by decide +kernel) ?_
    refine g_iload_n X 2 dX7_springs_84 rfl rfl ?_
    refine g_iadd X (v := nI (k + 102)) dX7_springs_85 ((nI_add _ _).trans (congrArg nI (by omega))) ?_
    refine g_lload_n X 0 dX7_springs_86 rfl rfl ?_
    refine g_lconst X (v := 0) dX7_springs_87 (by decide +kernel) ?_
    have J9 : ∀ (v8 : Int64), v8 = (if v2 ≤ (0 : Int64) then (S4 10 k) + (1 : Int64) else (0 : Int64)) → g_G p l e rm_X7_springs s m args below meth c D A 6 0 0 Q (wM h cI cJ cZ th C N S6 Qk K P Y) [(0, .ref (h 0)), (1, .int (nI k)), (3, .long v2)] 107 [.long v8, .int (nI (k + 102)), .ref (h 1)] := by
      intro v8 ev8
      obtain ⟨S10, eS10⟩ : ∃ z : St, z = u2 S6 10 k v8 := ⟨_, rfl⟩
      refine g_last X (ws' := wM h cI cJ cZ th C N S10 Qk K P Y) 1 rfl (102 + k) (congrArg nI (show k + 102 = 102 + k by omega)) (by omega) (Nat.le_of_ble_eq_true rfl) dX7_springs_107 (by rw [eS10]; first | done | (rw [flu_10 _ _ (i := k) _ (by omega)]; rfl)) ?_
      by_cases hx : v2 ≤ 0
      · --
        refine g_iconst X (v := nI 0) dX7_springs_108 (by decide +kernel) ?_
        refine g_istore X [(5, .int (nI 0)), (0, .ref (h 0)), (1, .int (nI k)), (3, .long v2)] dX7_springs_109 (Nat.le_of_ble_eq_true rfl) rfl ?_
        refine g_iload X 0 dX7_springs_111 rfl ?_
        refine g_bipush X (v := nI 10) dX7_springs_113 (by decide +kernel) ?_
        refine g_icN_ge X (a := 0) (b := 10) (tgt := 146) (by omega) (by omega) dX7_springs_115 (by decide) (fun h11 => absurd h11 (by omega)) (fun h11 => ?_)
        refine g_lload_n X 3 dX7_springs_118 rfl rfl ?_
        refine g_lconst X (v := 0) dX7_springs_119 (by decide +kernel) ?_
        refine g_lj_le X (tgt := 146) (pc1 := 121) dX7_springs_120 rfl dX7_springs_121 (by decide) (fun h12 => ?_) (fun h12 => absurd hx h12)
        refine g_vret X hr hlk hQ dX7_springs_146 ?_
        show g_eq _ _ _ _
        try rw [eS10]
        try rw [ev8]
        try rw [eS6]
        try rw [eS5]
        try rw [eS4]
        try rw [ev2]
        rw [ev2] at hx
        refine ⟨rfl, ?_⟩
        rw [← fe_m]
        exact congrArg (fun z => wM h cI cJ cZ th C N z Qk K P Y) (Eq.symm (if_pos hx))
      · --
        refine g_iconst X (v := nI 0) dX7_springs_108 (by decide +kernel) ?_
        refine g_istore X [(5, .int (nI 0)), (0, .ref (h 0)), (1, .int (nI k)), (3, .long v2)] dX7_springs_109 (Nat.le_of_ble_eq_true rfl) rfl ?_
        have L13 : ∀ (n15 i14 : Nat) (S16 : St), i14 + n15 = 10 → S16 = clrS k S10 i14 → g_G p l e rm_X7_springs s m args below meth c D A 6 0 0 Q (wM h cI cJ cZ th C N S16 Qk K P Y) [(0, .ref (h 0)), (1, .int (nI k)), (3, .long v2), (5, .int (nI i14))] 111 [] := by
          intro n15
          induction n15 with
          | zero =>
            intro i14 S16 hi17 eS16
            obtain rfl : i14 = 10 := by omega
            refine g_iload X 3 dX7_springs_111 rfl ?_
            refine g_bipush X (v := nI 10) dX7_springs_113 (by decide +kernel) ?_
            refine g_icN_ge X (a := 10) (b := 10) (tgt := 146) (by omega) (by omega) dX7_springs_115 (by decide) (fun h18 => ?_) (fun h18 => absurd h18 (by omega))
            refine g_vret X hr hlk hQ dX7_springs_146 ?_
            show g_eq _ _ _ _
            try rw [eS16]
            try rw [eS10]
            try rw [ev8]
            try rw [eS6]
            try rw [eS5]
            try rw [eS4]
            try rw [ev2]
            rw [ev2] at hx
            refine ⟨rfl, ?_⟩
            rw [← fe_m]
            exact congrArg (fun z => wM h cI cJ cZ th C N z Qk K P Y) (Eq.symm (if_neg hx))
          | succ n15 ihL13 =>
            intro i14 S16 hi17 eS16
            have hlti14 : i14 < 10 := by omega
            refine g_iload X 3 dX7_springs_111 rfl ?_
            refine g_bipush X (v := nI 10) dX7_springs_113 (by decide +kernel) ?_
            refine g_icN_ge X (a := i14) (b := 10) (tgt := 146) (by omega) (by omega) dX7_springs_115 (by decide) (fun h19 => absurd h19 (by omega)) (fun h19 => ?_)
            refine g_lload_n X 2 dX7_springs_118 rfl rfl ?_
            refine g_lconst X (v := 0) dX7_springs_119 (by decide +kernel) ?_
            refine g_lj_le X (tgt := 146) (pc1 := 121) dX7_springs_120 rfl dX7_springs_121 (by decide) (fun h20 => absurd h20 hx) (fun h20 => ?_)
            refine g_aload_n X 0 dX7_springs_124 rfl rfl ?_
            refine g_get X (C := RX7) (T := TX7) (N := 21) (v := .ref (h 1)) inlX7 0 rfl rfl 1 (Nat.le_of_ble_eq_true rfl) kF_X7_7 rfl dX7_springs_125 ?_
            refine g_bipush X (v := nI 106) dX7_springs_128 (by decide +kernel) ?_
            refine g_bipush X (v := nI 10) dX7_springs_130 (by decide +kernel) ?_
            refine g_iload_n X 1 dX7_springs_132 rfl rfl ?_
            refine g_imul X (v := nI (10 * k)) dX7_springs_133 (pk_mul _ _) ?_
            refine g_iadd X (v := nI (10 * k + 106)) dX7_springs_134 ((nI_add _ _).trans (congrArg nI (by omega))) ?_
            refine g_iload X 3 dX7_springs_135 rfl ?_
            refine g_iadd X (v := nI (10 * k + i14 + 106)) dX7_springs_137 ((nI_add _ _).trans (congrArg nI (by omega))) ?_
            refine g_lconst X (v := 0) dX7_springs_138 (by decide +kernel) ?_
            obtain ⟨S21, eS21⟩ : ∃ z : St, z = u2 S16 11 (10 * k + i14) (0 : Int64) := ⟨_, rfl⟩
            refine g_last X (ws' := wM h cI cJ cZ th C N S21 Qk K P Y) 1 rfl (106 + (10 * k + i14)) (congrArg nI (show 10 * k + i14 + 106 = 106 + (10 * k + i14) by omega)) (by omega) (Nat.le_of_ble_eq_true rfl) dX7_springs_139 (by rw [eS21]; first | done | (rw [flu_11 _ _ (i := 10 * k + i14) _ (by omega)]; rfl)) ?_
            refine g_iinc X [(5, .int (nI (i14 + 1))), (0, .ref (h 0)), (1, .int (nI k)), (3, .long v2)] (q := 3) (v := nI (i14 + 1)) dX7_springs_140 rfl ((congrArg (fun z => nI (i14) + z) (show Int32.ofInt 1 = nI 1 by decide +kernel)).trans ((nI_add _ _).trans (congrArg nI (by omega)))) (Nat.le_of_ble_eq_true rfl) rfl ?_
            refine g_goto X (tgt := 111) dX7_springs_143 (by decide) ?_
            refine g_lv _ [1, 2, 3, 0] rfl ?_
            exact ihL13 (i14 + 1) _ (by omega) (by (try rw [eS21]); (try rw [eS16]); first | done | (rfl))
        refine g_lv _ [1, 2, 3, 0] rfl ?_
        exact L13 (10) 0 _ (by omega) (by first | rfl | ((try rw [eS10]); (try rw [ev8]); (try rw [eS6]); (try rw [eS5]); (try rw [eS4]); (try rw [ev2]); first | done | rfl))
    refine g_lj_le X (tgt := 96) (pc1 := 89) dX7_springs_88 rfl dX7_springs_89 (by decide) (fun h7 => ?_) (fun h7 => ?_)
    · --
      refine g_aload_n X 1 dX7_springs_96 rfl rfl ?_
      refine g_get X (C := RX7) (T := TX7) (N := 21) (v := .ref (h 1)) inlX7 0 rfl rfl 1 (Nat.le_of_ble_eq_true rfl) kF_X7_7 rfl dX7_springs_97 ?_
      refine g_bipush X (v := nI 102) dX7_springs_100 (by decide +kernel) ?_
      refine g_iload_n X 2 dX7_springs_102 rfl rfl ?_
      refine g_iadd X (v := nI (k + 102)) dX7_springs_103 ((nI_add _ _).trans (congrArg nI (by omega))) ?_
      refine g_lald X 1 rfl (102 + k) (congrArg nI (show k + 102 = 102 + k by omega)) (by omega) (Nat.le_of_ble_eq_true rfl) (v := S4 10 k) ((fl_10 _ _ (i := k) (by omega)).trans (by rw [eS6, eS5]; exact (congrFun (u2_c _ _ _ (by decide)) _).trans (congrFun (u2_c _ _ _ (by decide)) _))) dX7_springs_104 ?_
      refine g_lconst X (v := 1) dX7_springs_105 (by decide +kernel) ?_
      refine g_ladd X (v := (S4 10 k) + (1 : Int64)) dX7_springs_106 rfl ?_
      refine g_lv _ [1, 2, 0] rfl ?_
      exact J9 _ (by rw [if_pos (c := v2 ≤ (0 : Int64)) h7])
    · --
      refine g_lconst X (v := 0) dX7_springs_92 (by decide +kernel) ?_
      refine g_goto X (tgt := 107) dX7_springs_93 (by decide) ?_
      refine g_lv _ [1, 2, 0] rfl ?_
      exact J9 _ (by rw [if_neg (c := v2 ≤ (0 : Int64)) h7])
  refine g_lj_lt X (tgt := 47) (pc1 := 23) dX7_springs_22 rfl dX7_springs_23 (by decide) (fun h1 => ?_) (fun h1 => ?_)
  · --
    refine g_lconst X (v := 0) dX7_springs_47 (by decide +kernel) ?_
    refine g_lv _ [1, 2, 0] rfl ?_
    exact J3 _ (by rw [if_pos (c := (S 0 (spN C k)) < ((C 8 k).toInt64)) h1])
  · --
    refine g_aload_n X 1 dX7_springs_26 rfl rfl ?_
    refine g_get X (C := RX7) (T := TX7) (N := 21) (v := .ref (h 1)) inlX7 0 rfl rfl 1 (Nat.le_of_ble_eq_true rfl) kF_X7_7 rfl dX7_springs_27 ?_
    refine g_iconst X (v := nI 0) dX7_springs_30 (by decide +kernel) ?_
    refine g_iload_n X 0 dX7_springs_31 rfl rfl ?_
    refine g_iadd X (v := nI (spN C k)) dX7_springs_32 ((nI_add _ _).trans (congrArg nI (by omega))) ?_
    refine g_lald X 1 rfl (0 + (spN C k)) (congrArg nI (show spN C k = 0 + (spN C k) by omega)) (by omega) (Nat.le_of_ble_eq_true rfl) (v := S 0 (spN C k)) (fl_0 _ _ (i := spN C k) (by omega)) dX7_springs_33 ?_
    refine g_ldc2 X kL_X7_125 dX7_springs_34 ?_
    refine g_ldiv X (v := (S 0 (spN C k)) / (100 : Int64)) dX7_springs_37 (by decide +kernel) rfl ?_
    refine g_ldc2 X kL_X7_159 dX7_springs_38 ?_
    refine g_callS X (As := [.long ((S 0 (spN C k)) / (100 : Int64)), .long (50 : Int64)]) (rest := []) (m_X7_lesser l D cI cJ cZ ((S 0 (spN C k)) / (100 : Int64)) (50 : Int64) ) kM_X7_129 kT_yX7_lesser kZ_RX7 kC_yX7_lesser hV_X7_lesser rfl rfl rfl ⟨Nat.le_of_ble_eq_true rfl, Nat.le_of_ble_eq_true rfl⟩ ⟨Nat.le_of_ble_eq_true rfl, Nat.le_of_ble_eq_true rfl⟩ (Nat.le_of_ble_eq_true rfl) dX7_springs_41 rfl [] rfl rfl (g_kk1 (w2 := wM h cI cJ cZ th C N S Qk K P Y) ⟨[], [0, 1, 2, 3, 4, 5, 6, 7, 8, 9, 10, 11, 12, 13, 14, 15, 16], [0, 1, 2, 3, 4, 5, 6, 7, 8, 9, 10, 11, 12, 13, 14, 15, 16], ([0, 1, 2, 3, 4, 5, 6, 7, 8, 9, 10, 11, 12, 13, 14, 15, 16].filterMap fun i => (wM h cI cJ cZ th C N S Qk K P Y)[i]?), rfl, rfl, rfl, rfl, by decide, rfl, rfl⟩ ?_)
    refine g_goto X (tgt := 48) dX7_springs_44 (by decide) ?_
    refine g_lv _ [1, 2, 0] rfl ?_
    exact J3 _ (by rw [if_neg (c := (S 0 (spN C k)) < ((C 8 k).toInt64)) h1])
theorem q_30 {S : St} (h : S 14 0 = lN (qN S) ∧ qN S ≤ 900000) : (60 ≤ S 14 0) ↔ 60 ≤ qN S := by
  rw [h.1]
  exact pk_lLE (a := 60) (by decide) (by have := h.2; omega)
def qM (S : St) (Qk : Nat → Int64) (b : Nat) : Nat → Int64 := if 60 ≤ S 14 0 then Qk else vp_updL (vp_updL (vp_updL Qk (3 * qN S) (S 13 0)) (3 * qN S + 1) (nI b).toInt64) (3 * qN S + 2) (S 3 b / 1000)
theorem qM_m {S : St} (h : S 14 0 = lN (qN S) ∧ qN S ≤ 900000) (Qk : Nat → Int64) {b : Nat} (hb : b < 12) : qM S Qk b = addQ S Qk b (S 3 b / 1000) := by
  unfold qM addQ
  by_cases hq : 60 ≤ qN S
  · rw [if_pos ((q_30 h).mpr hq), if_pos hq]
  · rw [if_neg (fun z => hq ((q_30 h).mp z)), if_neg hq, nI_l (by omega)]
    rfl
def sqS (S : St) (b : Nat) : St := u2 (u2 S 14 0 (S 14 0 + 1)) 3 b (S 3 b / 2)
theorem sq_m (S : St) (b : Nat) : u2 (if S 3 b ≤ 3000 then S else sqS S b) 3 b ((if S 3 b ≤ 3000 then S else sqS S b) 3 b - (if S 3 b ≤ 3000 then S else sqS S b) 3 b / 10) = shS b S := by
  unfold shS sqS
  by_cases h : S 3 b ≤ 3000
  · rw [if_pos h, if_pos h, if_pos h]
  · rw [if_neg h, if_neg h, if_neg h, u2_same, u2_twice]

theorem hV_X7_quakes : yX7_quakes.cls = RX7 ∧ yX7_quakes.cls ≠ "java/lang/invoke/MethodHandle" ∧ yX7_quakes.cls ≠ "java/lang/invoke/VarHandle" ∧ (parseMethodDescriptor yX7_quakes.desc).map (fun d => d.parameters.length) = some 1 := by decide +kernel
abbrev rm_X7_quakes : Room := { frames := 0, cells := 0, slots := 0, locals := 0 }
set_option maxRecDepth 100000 in
set_option maxHeartbeats 4000000 in
theorem m_X7_quakes (l : Launch) (D : va_G) (cI cJ cZ : ClassId) (h : Nat → Nat) (th : Int32) (C : Cf) (N : Nat → Nat) (S : St) (Qk K P : Nat → Int64) (Y : St) (b : Nat) (hb : b < 12) (hq : S 14 0 = lN (qN S) ∧ qN S ≤ 900000) : g_Ct l D cI cJ cZ yX7_quakes cX7_quakes 3 none rm_X7_quakes 0 0 [.ref (h 0), .int (nI b)] (wM h cI cJ cZ th C N S Qk K P Y) (g_eq none (wM h cI cJ cZ th C N (shS b S) (if S 3 b ≤ 3000 then Qk else addQ S Qk b (S 3 b / 1000)) K P Y)) := by
  refine g_body RX7 [(0, .ref (h 0)), (1, .int (nI b))] kH_X7 rfl (Nat.le_of_ble_eq_true rfl) rfl ?_
  intro p e s m args below meth c A X hr hlk hmn Q hQ
  have hq2 := hq.2
  have h60 := q_30 hq
  refine g_aload_n X 0 dX7_quakes_0 rfl rfl ?_
  refine g_get X (C := RX7) (T := TX7) (N := 21) (v := .ref (h 1)) inlX7 0 rfl rfl 1 (Nat.le_of_ble_eq_true rfl) kF_X7_7 rfl dX7_quakes_1 ?_
  refine g_bipush X (v := nI 36) dX7_quakes_4 (by decide +kernel) ?_
  refine g_iload_n X 1 dX7_quakes_6 rfl rfl ?_
  refine g_iadd X (v := nI (b + 36)) dX7_quakes_7 ((nI_add _ _).trans (congrArg nI (by omega))) ?_
  refine g_lald X 1 rfl (36 + b) (congrArg nI (show b + 36 = 36 + b by omega)) (by omega) (Nat.le_of_ble_eq_true rfl) (v := S 3 b) (fl_3 _ _ (i := b) (by omega)) dX7_quakes_8 ?_
  refine g_ldc2 X kL_X7_149 dX7_quakes_9 ?_
  have J12 : ∀ (S10 : St) (Qk11 : Nat → Int64), S10 = (if (S 3 b) ≤ (3000 : Int64) then S else (u2 (u2 S 14 0 ((S 14 0) + (1 : Int64))) 3 b (((u2 S 14 0 ((S 14 0) + (1 : Int64))) 3 b) / (2 : Int64)))) → Qk11 = (if (S 3 b) ≤ (3000 : Int64) then Qk else (qM S Qk b)) → g_G p l e rm_X7_quakes s m args below meth c D A 3 0 0 Q (wM h cI cJ cZ th C N S10 Qk11 K P Y) [(0, .ref (h 0)), (1, .int (nI b))] 119 [] := by
    intro S10 Qk11 eS10 eQk11
    refine g_aload_n X 0 dX7_quakes_119 rfl rfl ?_
    refine g_get X (C := RX7) (T := TX7) (N := 21) (v := .ref (h 1)) inlX7 0 rfl rfl 1 (Nat.le_of_ble_eq_true rfl) kF_X7_7 rfl dX7_quakes_120 ?_
    refine g_bipush X (v := nI 36) dX7_quakes_123 (by decide +kernel) ?_
    refine g_iload_n X 1 dX7_quakes_125 rfl rfl ?_
    refine g_iadd X (v := nI (b + 36)) dX7_quakes_126 ((nI_add _ _).trans (congrArg nI (by omega))) ?_
    refine g_dup2_11 X dX7_quakes_127 rfl rfl ?_
    refine g_lald X 1 rfl (36 + b) (congrArg nI (show b + 36 = 36 + b by omega)) (by omega) (Nat.le_of_ble_eq_true rfl) (v := S10 3 b) (fl_3 _ _ (i := b) (by omega)) dX7_quakes_128 ?_
    refine g_aload_n X 0 dX7_quakes_129 rfl rfl ?_
    refine g_get X (C := RX7) (T := TX7) (N := 21) (v := .ref (h 1)) inlX7 0 rfl rfl 1 (Nat.le_of_ble_eq_true rfl) kF_X7_7 rfl dX7_quakes_130 ?_
    refine g_bipush X (v := nI 36) dX7_quakes_133 (by decide +kernel) ?_
    refine g_iload_n X 1 dX7_quakes_135 rfl rfl ?_
    refine g_iadd X (v := nI (b + 36)) dX7_quakes_136 ((nI_add _ _).trans (congrArg nI (by omega))) ?_
    refine g_lald X 1 rfl (36 + b) (congrArg nI (show b + 36 = 36 + b by omega)) (by omega) (Nat.le_of_ble_eq_true rfl) (v := S10 3 b) (fl_3 _ _ (i := b) (by omega)) dX7_quakes_137 ?_
    refine g_ldc2 X kL_X7_127 dX7_quakes_138 ?_
    refine g_ldiv X (v := (S10 3 b) / (10 : Int64)) dX7_quakes_141 (by decide +kernel) rfl ?_
    refine g_lsub X (v := (S10 3 b) - ((S10 3 b) / (10 : Int64))) dX7_quakes_142 rfl ?_
    obtain ⟨S13, eS13⟩ : ∃ z : St, z = u2 S10 3 b ((S10 3 b) - ((S10 3 b) / (10 : Int64))) := ⟨_, rfl⟩
    refine g_last X (ws' := wM h cI cJ cZ th C N S13 Qk11 K P Y) 1 rfl (36 + b) (congrArg nI (show b + 36 = 36 + b by omega)) (by omega) (Nat.le_of_ble_eq_true rfl) dX7_quakes_143 (by rw [eS13]; first | done | (rw [flu_3 _ _ (i := b) _ (by omega)]; rfl)) ?_
    refine g_vret X hr hlk hQ dX7_quakes_144 ?_
    show g_eq _ _ _ _
    try rw [eS13]
    try rw [eQk11]
    try rw [eS10]
    refine ⟨rfl, ?_⟩
    rw [qM_m hq Qk hb]
    exact congrArg (fun z => wM h cI cJ cZ th C N z (if S 3 b ≤ 3000 then Qk else addQ S Qk b (S 3 b / 1000)) K P Y) (sq_m S b)
  refine g_lj_le X (tgt := 119) (pc1 := 13) dX7_quakes_12 rfl dX7_quakes_13 (by decide) (fun h1 => ?_) (fun h1 => ?_)
  · --
    exact J12 _ _ (by rw [if_pos (c := (S 3 b) ≤ (3000 : Int64)) h1]) (by rw [if_pos (c := (S 3 b) ≤ (3000 : Int64)) h1])
  · --
    refine g_aload_n X 0 dX7_quakes_16 rfl rfl ?_
    refine g_get X (C := RX7) (T := TX7) (N := 21) (v := .ref (h 1)) inlX7 0 rfl rfl 1 (Nat.le_of_ble_eq_true rfl) kF_X7_7 rfl dX7_quakes_17 ?_
    refine g_sipush X (v := nI 155) dX7_quakes_20 (by decide +kernel) ?_
    refine g_lald X 1 rfl (155 + 0) (congrArg nI (show 155 = 155 + 0 by omega)) (by omega) (Nat.le_of_ble_eq_true rfl) (v := S 14 0) (fl_14 _ _ (i := 0) (by omega)) dX7_quakes_23 ?_
    refine g_ldc2 X kL_X7_141 dX7_quakes_24 ?_
    have J7 : ∀ (Qk6 : Nat → Int64), Qk6 = (if (60 : Int64) ≤ (S 14 0) then Qk else (vp_updL (vp_updL (vp_updL Qk (3 * (qN S)) (S 13 0)) (3 * (qN S) + 1) ((nI b).toInt64)) (3 * (qN S) + 2) ((S 3 b) / (1000 : Int64)))) → g_G p l e rm_X7_quakes s m args below meth c D A 3 0 0 Q (wM h cI cJ cZ th C N S Qk6 K P Y) [(0, .ref (h 0)), (1, .int (nI b))] 92 [] := by
      intro Qk6 eQk6
      replace eQk6 : Qk6 = qM S Qk b := by rw [eQk6]; first | done | rfl
      refine g_aload_n X 0 dX7_quakes_92 rfl rfl ?_
      refine g_get X (C := RX7) (T := TX7) (N := 21) (v := .ref (h 1)) inlX7 0 rfl rfl 1 (Nat.le_of_ble_eq_true rfl) kF_X7_7 rfl dX7_quakes_93 ?_
      refine g_sipush X (v := nI 155) dX7_quakes_96 (by decide +kernel) ?_
      refine g_dup2_11 X dX7_quakes_99 rfl rfl ?_
      refine g_lald X 1 rfl (155 + 0) (congrArg nI (show 155 = 155 + 0 by omega)) (by omega) (Nat.le_of_ble_eq_true rfl) (v := S 14 0) (fl_14 _ _ (i := 0) (by omega)) dX7_quakes_100 ?_
      refine g_lconst X (v := 1) dX7_quakes_101 (by decide +kernel) ?_
      refine g_ladd X (v := (S 14 0) + (1 : Int64)) dX7_quakes_102 rfl ?_
      obtain ⟨S8, eS8⟩ : ∃ z : St, z = u2 S 14 0 ((S 14 0) + (1 : Int64)) := ⟨_, rfl⟩
      refine g_last X (ws' := wM h cI cJ cZ th C N S8 Qk6 K P Y) 1 rfl (155 + 0) (congrArg nI (show 155 = 155 + 0 by omega)) (by omega) (Nat.le_of_ble_eq_true rfl) dX7_quakes_103 (by rw [eS8]; first | done | (rw [flu_14 _ _ (i := 0) _ (by omega)]; rfl)) ?_
      refine g_aload_n X 0 dX7_quakes_104 rfl rfl ?_
      refine g_get X (C := RX7) (T := TX7) (N := 21) (v := .ref (h 1)) inlX7 0 rfl rfl 1 (Nat.le_of_ble_eq_true rfl) kF_X7_7 rfl dX7_quakes_105 ?_
      refine g_bipush X (v := nI 36) dX7_quakes_108 (by decide +kernel) ?_
      refine g_iload_n X 1 dX7_quakes_110 rfl rfl ?_
      refine g_iadd X (v := nI (b + 36)) dX7_quakes_111 ((nI_add _ _).trans (congrArg nI (by omega))) ?_
      refine g_dup2_11 X dX7_quakes_112 rfl rfl ?_
      refine g_lald X 1 rfl (36 + b) (congrArg nI (show b + 36 = 36 + b by omega)) (by omega) (Nat.le_of_ble_eq_true rfl) (v := S8 3 b) (fl_3 _ _ (i := b) (by omega)) dX7_quakes_113 ?_
      refine g_ldc2 X kL_X7_147 dX7_quakes_114 ?_
      refine g_ldiv X (v := (S8 3 b) / (2 : Int64)) dX7_quakes_117 (by decide +kernel) rfl ?_
      obtain ⟨S9, eS9⟩ : ∃ z : St, z = u2 S8 3 b ((S8 3 b) / (2 : Int64)) := ⟨_, rfl⟩
      refine g_last X (ws' := wM h cI cJ cZ th C N S9 Qk6 K P Y) 1 rfl (36 + b) (congrArg nI (show b + 36 = 36 + b by omega)) (by omega) (Nat.le_of_ble_eq_true rfl) dX7_quakes_118 (by rw [eS9]; first | done | (rw [flu_3 _ _ (i := b) _ (by omega)]; rfl)) ?_
      exact J12 _ _ (by (try rw [eS9]); (try rw [eS8]); (try rw [eQk6]); rw [if_neg (c := (S 3 b) ≤ (3000 : Int64)) h1]) (by (try rw [eS9]); (try rw [eS8]); (try rw [eQk6]); rw [if_neg (c := (S 3 b) ≤ (3000 : Int64)) h1])
    refine g_lj_ge X (tgt := 92) (pc1 := 28) dX7_quakes_27 rfl dX7_quakes_28 (by decide) (fun h2 => ?_) (fun h2 => ?_)
    · --
      exact J7 _ (by rw [if_pos (c := (60 : Int64) ≤ (S 14 0)) h2])
    · --
      have hq6 : qN S < 60 := Nat.lt_of_not_le (fun z => (show ¬ (60 : Int64) ≤ S 14 0 by assumption) ((q_30 hq).mpr z))
      refine g_sipush X (v := nI 156) dX7_quakes_31 (by decide +kernel) ?_
      refine g_iconst X (v := nI 3) dX7_quakes_34 (by decide +kernel) ?_
      refine g_aload_n X 0 dX7_quakes_35 rfl rfl ?_
      refine g_get X (C := RX7) (T := TX7) (N := 21) (v := .ref (h 1)) inlX7 0 rfl rfl 1 (Nat.le_of_ble_eq_true rfl) kF_X7_7 rfl dX7_quakes_36 ?_
      refine g_sipush X (v := nI 155) dX7_quakes_39 (by decide +kernel) ?_
      refine g_lald X 1 rfl (155 + 0) (congrArg nI (show 155 = 155 + 0 by omega)) (by omega) (Nat.le_of_ble_eq_true rfl) (v := S 14 0) (fl_14 _ _ (i := 0) (by omega)) dX7_quakes_42 ?_
      refine g_l2i X (v := nI (qN S)) dX7_quakes_43 (by rw [hq.1]; exact lN_i _) ?_
      refine g_imul X (v := nI (3 * (qN S))) dX7_quakes_44 (pk_mul _ _) ?_
      refine g_iadd X (v := nI (3 * (qN S) + 156)) dX7_quakes_45 ((nI_add _ _).trans (congrArg nI (by omega))) ?_
      refine g_istore_n X [(2, .int (nI (3 * (qN S) + 156))), (0, .ref (h 0)), (1, .int (nI b))] dX7_quakes_46 rfl (Nat.le_of_ble_eq_true rfl) rfl ?_
      refine g_aload_n X 1 dX7_quakes_47 rfl rfl ?_
      refine g_get X (C := RX7) (T := TX7) (N := 21) (v := .ref (h 1)) inlX7 0 rfl rfl 1 (Nat.le_of_ble_eq_true rfl) kF_X7_7 rfl dX7_quakes_48 ?_
      refine g_iload_n X 0 dX7_quakes_51 rfl rfl ?_
      refine g_aload_n X 1 dX7_quakes_52 rfl rfl ?_
      refine g_get X (C := RX7) (T := TX7) (N := 21) (v := .ref (h 1)) inlX7 0 rfl rfl 1 (Nat.le_of_ble_eq_true rfl) kF_X7_7 rfl dX7_quakes_53 ?_
      refine g_sipush X (v := nI 154) dX7_quakes_56 (by decide +kernel) ?_
      refine g_lald X 1 rfl (154 + 0) (congrArg nI (show 154 = 154 + 0 by omega)) (by omega) (Nat.le_of_ble_eq_true rfl) (v := S 13 0) (fl_13 _ _ (i := 0) (by omega)) dX7_quakes_59 ?_
      obtain ⟨Qk3, eQk3⟩ : ∃ z : Nat → Int64, z = vp_updL Qk (3 * (qN S)) (S 13 0) := ⟨_, rfl⟩
      refine g_last X (ws' := wM h cI cJ cZ th C N S Qk3 K P Y) 1 rfl (156 + (3 * (qN S))) (congrArg nI (show 3 * (qN S) + 156 = 156 + (3 * (qN S)) by omega)) (by omega) (Nat.le_of_ble_eq_true rfl) dX7_quakes_60 (by rw [eQk3]; first | done | (rw [flu_q]; rfl)) ?_
      refine g_aload_n X 1 dX7_quakes_61 rfl rfl ?_
      refine g_get X (C := RX7) (T := TX7) (N := 21) (v := .ref (h 1)) inlX7 0 rfl rfl 1 (Nat.le_of_ble_eq_true rfl) kF_X7_7 rfl dX7_quakes_62 ?_
      refine g_iload_n X 0 dX7_quakes_65 rfl rfl ?_
      refine g_iconst X (v := nI 1) dX7_quakes_66 (by decide +kernel) ?_
      refine g_iadd X (v := nI (3 * (qN S) + 157)) dX7_quakes_67 ((nI_add _ _).trans (congrArg nI (by omega))) ?_
      refine g_iload_n X 2 dX7_quakes_68 rfl rfl ?_
      refine g_i2l X (v := (nI b).toInt64) dX7_quakes_69 rfl ?_
      obtain ⟨Qk4, eQk4⟩ : ∃ z : Nat → Int64, z = vp_updL Qk3 (3 * (qN S) + 1) ((nI b).toInt64) := ⟨_, rfl⟩
      refine g_last X (ws' := wM h cI cJ cZ th C N S Qk4 K P Y) 1 rfl (156 + (3 * (qN S) + 1)) (congrArg nI (show 3 * (qN S) + 157 = 156 + (3 * (qN S) + 1) by omega)) (by omega) (Nat.le_of_ble_eq_true rfl) dX7_quakes_70 (by rw [eQk4]; first | done | (rw [flu_q]; rfl)) ?_
      refine g_aload_n X 1 dX7_quakes_71 rfl rfl ?_
      refine g_get X (C := RX7) (T := TX7) (N := 21) (v := .ref (h 1)) inlX7 0 rfl rfl 1 (Nat.le_of_ble_eq_true rfl) kF_X7_7 rfl dX7_quakes_72 ?_
      refine g_iload_n X 0 dX7_quakes_75 rfl rfl ?_
      refine g_iconst X (v := nI 2) dX7_quakes_76 (by decide +kernel) ?_
      refine g_iadd X (v := nI (3 * (qN S) + 158)) dX7_quakes_77 ((nI_add _ _).trans (congrArg nI (by omega))) ?_
      refine g_aload_n X 1 dX7_quakes_78 rfl rfl ?_
      refine g_get X (C := RX7) (T := TX7) (N := 21) (v := .ref (h 1)) inlX7 0 rfl rfl 1 (Nat.le_of_ble_eq_true rfl) kF_X7_7 rfl dX7_quakes_79 ?_
      refine g_bipush X (v := nI 36) dX7_quakes_82 (by decide +kernel) ?_
      refine g_iload_n X 2 dX7_quakes_84 rfl rfl ?_
      refine g_iadd X (v := nI (b + 36)) dX7_quakes_85 ((nI_add _ _).trans (congrArg nI (by omega))) ?_
      refine g_lald X 1 rfl (36 + b) (congrArg nI (show b + 36 = 36 + b by omega)) (by omega) (Nat.le_of_ble_eq_true rfl) (v := S 3 b) (fl_3 _ _ (i := b) (by omega)) dX7_quakes_86 ?_
      refine g_ldc2 X kL_X7_87 dX7_quakes_87 ?_
      refine g_ldiv X (v := (S 3 b) / (1000 : Int64)) dX7_quakes_90 (by decide +kernel) rfl ?_
      obtain ⟨Qk5, eQk5⟩ : ∃ z : Nat → Int64, z = vp_updL Qk4 (3 * (qN S) + 2) ((S 3 b) / (1000 : Int64)) := ⟨_, rfl⟩
      refine g_last X (ws' := wM h cI cJ cZ th C N S Qk5 K P Y) 1 rfl (156 + (3 * (qN S) + 2)) (congrArg nI (show 3 * (qN S) + 158 = 156 + (3 * (qN S) + 2) by omega)) (by omega) (Nat.le_of_ble_eq_true rfl) dX7_quakes_91 (by rw [eQk5]; first | done | (rw [flu_q]; rfl)) ?_
      refine g_lv _ [1, 2] rfl ?_
      exact J7 _ (by (try rw [eQk5]); (try rw [eQk4]); (try rw [eQk3]); rw [if_neg (c := (60 : Int64) ≤ (S 14 0)) h2])
