/-! the reference's month -/
theorem wd_m {C : Cf} {S : St} {w : Nat} (hm : C 4 w = nI (muN C w) ∧ muN C w ≤ 1000) (hc : S 4 w = lN (scN S w) ∧ scN S w ≤ 100) : (C 4 w).toInt64 * (100 - S 4 w) / 100 = wd C S w := by
  have h1 : (C 4 w).toInt64 = lN (muN C w) := by
    have := hm.2
    rw [hm.1]
    exact nI_l (by omega)
  have h2 := n_mul hm.2 (show 100 - scN S w ≤ 100 by omega)
  rw [h1, hc.1]
  show lN _ * (lN 100 - lN _) / lN 100 = lN _
  rw [lN_sub hc.2, lN_mul, pk_lDiv (by omega) (by decide) (by decide)]
def fndM (S : St) (w : Nat) (x : Int64) : St := u2 (u2 S 7 w (S 7 w + x)) 8 w (if x ≤ 0 then S 8 w else if ¬ S 8 w = -1 then S 8 w else S 13 0)
def dM1 (S : St) (b w : Nat) (x : Int64) : St := fndM (giveS S b x) w (gone S b x)
def dM2 (S : St) (b w : Nat) (x hot : Int64) : St := u2 (u2 (u2 (u2 (dM1 S b w x) 12 1 (dM1 S b w x 12 1 + stm x hot)) 12 6 (dM1 S b w x 12 6 + (if hot ≤ 60 then 0 else stm x hot * (hot - 60) / 10))) 12 7 (dM1 S b w x 12 7 + x * hot)) 5 w x
def dM3 (S : St) (b w : Nat) (x hot : Int64) : St := if hot ≤ 160 then dM2 S b w x hot else if x ≤ 0 then dM2 S b w x hot else u2 (dM2 S b w x hot) 4 w (if dM2 S b w x hot 4 w + 1 + x / 500 < 100 then dM2 S b w x hot 4 w + 1 + x / 500 else 100)
def chgM (C : Cf) (b w : Nat) (x : Int64) (k : Nat) (S : St) : St := u2 S 11 (10 * k + w) (S 11 (10 * k + w) + (if nrB b (spN C k) = false then 0 else x))
theorem deg_5 {S : St} {w b : Nat} {x : Int64} : deg (u2 S 5 w x) b = deg S b := by
  unfold deg
  rw [u2_c _ _ _ (by decide), u2_c _ _ _ (by decide)]
theorem gone_5 {S : St} {w b : Nat} {x y : Int64} : gone (u2 S 5 w x) b y = gone S b y := by
  unfold gone
  rw [u2_c _ _ _ (by decide), u2_c _ _ _ (by decide)]
theorem give_5 {S : St} {w b : Nat} {x y : Int64} : giveS (u2 S 5 w x) b y = u2 (giveS S b y) 5 w x := by
  unfold giveS
  rw [deg_5, gone_5, u2_c _ _ _ (by decide), u2_c _ _ _ (by decide), u2_c _ _ _ (by decide), u2_sort _ _ _ _ _ (show 1 < 5 by decide), u2_sort _ _ _ _ _ (show 2 < 5 by decide), u2_sort _ _ _ _ _ (show 0 < 5 by decide)]
theorem find_5 {T : St} {w : Nat} {x g : Int64} : findS (u2 T 5 w x) w g = u2 (fndM T w g) 5 w x := by
  unfold findS fndM
  rw [u2_c _ _ _ (show ¬ 7 = 5 by decide), u2_c _ _ _ (show ¬ 8 = 5 by decide), u2_c _ _ _ (show ¬ 13 = 5 by decide), u2_sort _ _ _ _ _ (show 5 < 8 by decide), u2_sort _ _ _ _ _ (show 5 < 7 by decide)]
  by_cases h : g ≤ 0
  · rw [if_pos h, if_pos h, u2_eqv (c := 8)]
    rw [u2_c _ _ _ (by decide), u2_c _ _ _ (by decide)]
  · rw [if_neg h, if_neg h]
    by_cases h2 : ¬ T 8 w = -1
    · rw [if_pos h2, if_pos h2, u2_eqv (c := 8)]
      rw [u2_c _ _ _ (by decide), u2_c _ _ _ (by decide)]
    · rw [if_neg h2, if_neg h2]
theorem dr1_m {C : Cf} {S : St} {w : Nat} : dr1 C S w = u2 (dM1 S (plN C w) w (drW C S w)) 5 w (drW C S w) := by
  unfold dr1 dM1
  rw [give_5, gone_5, find_5]
theorem stm_m (x hot : Int64) : (if hot ≤ 60 then 0 else stm x hot * (hot - 60) / 10) = stm x hot * (if 0 < hot - 60 then hot - 60 else 0) / 10 := by
  have h60 : (60 : Int64).toInt = 60 := rfl
  have hz : (0 : Int64).toInt = 0 := rfl
  by_cases h : hot ≤ 60
  · have h1 : stm x hot = 0 := by
      unfold stm
      rw [z_le] at h
      exact if_pos (by rw [z_le]; have : (100 : Int64).toInt = 100 := rfl; omega)
    rw [if_pos h, h1, Int64.zero_mul]
    rfl
  · have hr := Int64.toInt_lt hot
    have h2 : 0 < hot - 60 := by
      rw [z_le] at h
      rw [z_lt, z_sub (by omega) (by omega)]
      omega
    rw [if_neg h, if_pos h2]
theorem dr2_m {C : Cf} {S : St} {w : Nat} {hot : Int64} : dM2 S (plN C w) w (drW C S w) hot = dr2 C S w (drW C S w) hot := by
  unfold dM2 dr2
  rw [stm_m, u2_sort _ _ _ _ _ (show 5 < 12 by decide), u2_sort _ _ _ _ _ (show 5 < 12 by decide), u2_sort _ _ _ _ _ (show 5 < 12 by decide), dr1_m, u2_c _ _ _ (show ¬ 12 = 5 by decide)]
theorem min_m (v : Int64) : (if v < 100 then v else 100) = if 100 < v then 100 else v := by
  by_cases h : v < 100
  · rw [if_pos h, if_neg (fun z => by rw [z_lt] at h z; omega)]
  · rw [if_neg h]
    by_cases h2 : 100 < v
    · rw [if_pos h2]
    · rw [if_neg h2]
      rw [z_lt] at h h2
      rw [z_eq]
      omega
theorem dr3_m {C : Cf} {S : St} {w : Nat} {hot : Int64} : dM3 S (plN C w) w (drW C S w) hot = dr3 C S w (drW C S w) hot := by
  unfold dM3 dr3
  rw [dr2_m, min_m]
  rfl
theorem chg_m {C : Cf} {b w k : Nat} {x : Int64} {S : St} (hb : b < 12) (hs : spN C k < 12) : chgM C b w x k S = chgS C b w x k S := by
  unfold chgM chgS
  rw [near_m C hb hs]
  by_cases h : nearS C k b = false
  · rw [if_pos h, if_pos h, Int64.add_zero, u2_self]
  · rw [if_neg h, if_neg h]
theorem draw_m {C : Cf} {N : Nat → Nat} {S : St} {w : Nat} (hC : Cok C N) (hb : plN C w < 12) : itr (chgM C (plN C w) w (drW C S w)) (dM3 S (plN C w) w (drW C S w) (deg S (plN C w))) (N 2) = drawS C N S w := by
  unfold drawS
  rw [dr3_m]
  exact itr_congr _ _ (fun i hi T => chg_m hb (hC.sp hi).2)

theorem hV_X7_draws : yX7_draws.cls = RX7 ∧ yX7_draws.cls ≠ "java/lang/invoke/MethodHandle" ∧ yX7_draws.cls ≠ "java/lang/invoke/VarHandle" ∧ (parseMethodDescriptor yX7_draws.desc).map (fun d => d.parameters.length) = some 1 := by decide +kernel
abbrev rm_X7_draws : Room := { frames := 3, cells := 0, slots := 0, locals := 63 }
set_option maxRecDepth 100000 in
set_option maxHeartbeats 4000000 in
theorem m_X7_draws (l : Launch) (D : va_G) (cI cJ cZ : ClassId) (h : Nat → Nat) (th : Int32) (C : Cf) (N : Nat → Nat) (S : St) (Qk K P : Nat → Int64) (Y : St) (w : Nat) (hC : Cok C N) (hW : Wok S) (hE : Wel N S) (hw : w < N 0) : g_Ct l D cI cJ cZ yX7_draws cX7_draws 12 (some .long) rm_X7_draws 0 0 [.ref (h 0), .int (nI w)] (wM h cI cJ cZ th C N S Qk K P Y) (g_eq (some (.long (brW C S w))) (wM h cI cJ cZ th C N (drawS C N S w) Qk K P Y)) := by
  refine g_body RX7 [(0, .ref (h 0)), (1, .int (nI w))] kH_X7 rfl (Nat.le_of_ble_eq_true rfl) rfl ?_
  intro p e s m args below meth c A X hr hlk hmn Q hQ
  have hN0 := hC.n0
  have hN1 := hC.n1
  have hN2 := hC.n2
  have hpl := (hC.pl hw).2
  refine g_aload_n X 0 dX7_draws_0 rfl rfl ?_
  refine g_get X (C := RX7) (T := TX7) (N := 21) (v := .ref (h 5)) inlX7 0 rfl rfl 7 (Nat.le_of_ble_eq_true rfl) kF_X7_23 rfl dX7_draws_1 ?_
  refine g_iload_n X 1 dX7_draws_4 rfl rfl ?_
  refine g_iald X 5 rfl (w) rfl (by omega) (Nat.le_of_ble_eq_true rfl) (v := nI (plN C w)) (hC.pl hw).1 dX7_draws_5 ?_
  refine g_istore_n X [(2, .int (nI (plN C w))), (0, .ref (h 0)), (1, .int (nI w))] dX7_draws_6 rfl (Nat.le_of_ble_eq_true rfl) rfl ?_
  refine g_aload_n X 1 dX7_draws_7 rfl rfl ?_
  refine g_get X (C := RX7) (T := TX7) (N := 21) (v := .ref (h 7)) inlX7 0 rfl rfl 9 (Nat.le_of_ble_eq_true rfl) kF_X7_30 rfl dX7_draws_8 ?_
  refine g_iload_n X 2 dX7_draws_11 rfl rfl ?_
  refine g_iald X 7 rfl (w) rfl (by omega) (Nat.le_of_ble_eq_true rfl) (v := C 4 w) rfl dX7_draws_12 ?_
  refine g_i2l X (v := (C 4 w).toInt64) dX7_draws_13 rfl ?_
  refine g_ldc2 X kL_X7_125 dX7_draws_14 ?_
  refine g_aload_n X 1 dX7_draws_17 rfl rfl ?_
  refine g_get X (C := RX7) (T := TX7) (N := 21) (v := .ref (h 1)) inlX7 0 rfl rfl 1 (Nat.le_of_ble_eq_true rfl) kF_X7_7 rfl dX7_draws_18 ?_
  refine g_bipush X (v := nI 48) dX7_draws_21 (by decide +kernel) ?_
  refine g_iload_n X 2 dX7_draws_23 rfl rfl ?_
  refine g_iadd X (v := nI (w + 48)) dX7_draws_24 ((nI_add _ _).trans (congrArg nI (by omega))) ?_
  refine g_lald X 1 rfl (48 + w) (congrArg nI (show w + 48 = 48 + w by omega)) (by omega) (Nat.le_of_ble_eq_true rfl) (v := S 4 w) (fl_4 _ _ (i := w) (by omega)) dX7_draws_25 ?_
  refine g_lsub X (v := (100 : Int64) - (S 4 w)) dX7_draws_26 rfl ?_
  refine g_lmul X (v := ((C 4 w).toInt64) * ((100 : Int64) - (S 4 w))) dX7_draws_27 rfl ?_
  refine g_ldc2 X kL_X7_125 dX7_draws_28 ?_
  refine g_ldiv X (v := wd C S w) dX7_draws_31 (by decide +kernel) (wd_m (hC.mu hw) (hE.1 w hw)) ?_
  refine g_aload_n X 1 dX7_draws_32 rfl rfl ?_
  refine g_get X (C := RX7) (T := TX7) (N := 21) (v := .ref (h 1)) inlX7 0 rfl rfl 1 (Nat.le_of_ble_eq_true rfl) kF_X7_7 rfl dX7_draws_33 ?_
  refine g_iconst X (v := nI 0) dX7_draws_36 (by decide +kernel) ?_
  refine g_iload_n X 0 dX7_draws_37 rfl rfl ?_
  refine g_iadd X (v := nI (plN C w)) dX7_draws_38 ((nI_add _ _).trans (congrArg nI (by omega))) ?_
  refine g_lald X 1 rfl (0 + (plN C w)) (congrArg nI (show plN C w = 0 + (plN C w) by omega)) (by omega) (Nat.le_of_ble_eq_true rfl) (v := S 0 (plN C w)) (fl_0 _ _ (i := plN C w) (by omega)) dX7_draws_39 ?_
  refine g_ldc2 X kL_X7_127 dX7_draws_40 ?_
  refine g_ldiv X (v := (S 0 (plN C w)) / (10 : Int64)) dX7_draws_43 (by decide +kernel) rfl ?_
  refine g_callS X (As := [.long (wd C S w), .long ((S 0 (plN C w)) / (10 : Int64))]) (rest := []) (m_X7_lesser l D cI cJ cZ (wd C S w) ((S 0 (plN C w)) / (10 : Int64)) ) kM_X7_129 kT_yX7_lesser kZ_RX7 kC_yX7_lesser hV_X7_lesser rfl rfl rfl ⟨Nat.le_of_ble_eq_true rfl, Nat.le_of_ble_eq_true rfl⟩ ⟨Nat.le_of_ble_eq_true rfl, Nat.le_of_ble_eq_true rfl⟩ (Nat.le_of_ble_eq_true rfl) dX7_draws_44 rfl [] rfl rfl (g_kk1 (w2 := wM h cI cJ cZ th C N S Qk K P Y) ⟨[], [0, 1, 2, 3, 4, 5, 6, 7, 8, 9, 10, 11, 12, 13, 14, 15, 16], [0, 1, 2, 3, 4, 5, 6, 7, 8, 9, 10, 11, 12, 13, 14, 15, 16], ([0, 1, 2, 3, 4, 5, 6, 7, 8, 9, 10, 11, 12, 13, 14, 15, 16].filterMap fun i => (wM h cI cJ cZ th C N S Qk K P Y)[i]?), rfl, rfl, rfl, rfl, by decide, rfl, rfl⟩ ?_)
  obtain ⟨x1, ex1⟩ : ∃ z : Int64, z = drW C S w := ⟨_, rfl⟩
  refine g_st (st' := [.long x1]) (by rw [ex1]; first | done | rfl) ?_
  refine g_lstore_n X [(3, .long x1), (2, .int (nI (plN C w))), (0, .ref (h 0)), (1, .int (nI w))] dX7_draws_47 rfl (Nat.le_of_ble_eq_true rfl) rfl ?_
  refine g_aload_n X 2 dX7_draws_48 rfl rfl ?_
  refine g_iload_n X 1 dX7_draws_49 rfl rfl ?_
  refine g_callV X (As := [.int (nI (plN C w))]) (rest := []) (m_X7_degrees l D cI cJ cZ h th C N S Qk K P Y (plN C w) hpl (hW.ne hpl)) kM_X7_111 kI_yX7_degrees kS_yX7_degrees kZ_RX7 kC_yX7_degrees hV_X7_degrees rfl rfl rfl 0 rfl (ci := 7) rfl ⟨Nat.le_of_ble_eq_true rfl, Nat.le_of_ble_eq_true rfl⟩ ⟨Nat.le_of_ble_eq_true rfl, Nat.le_of_ble_eq_true rfl⟩ (Nat.le_of_ble_eq_true rfl) dX7_draws_50 rfl [0, 1, 2, 3, 4, 5, 6, 7, 8, 9, 10, 11, 12, 13, 14, 15, 16] rfl rfl (g_kk1 (w2 := wM h cI cJ cZ th C N S Qk K P Y) ⟨[0, 1, 2, 3, 4, 5, 6, 7, 8, 9, 10, 11, 12, 13, 14, 15, 16], [], [0, 1, 2, 3, 4, 5, 6, 7, 8, 9, 10, 11, 12, 13, 14, 15, 16], [], rfl, rfl, rfl, rfl, by decide, rfl, rfl⟩ ?_)
  obtain ⟨x2, ex2⟩ : ∃ z : Int64, z = deg S (plN C w) := ⟨_, rfl⟩
  refine g_st (st' := [.long x2]) (by rw [ex2]; first | done | rfl) ?_
  refine g_lstore X [(5, .long x2), (3, .long x1), (2, .int (nI (plN C w))), (0, .ref (h 0)), (1, .int (nI w))] dX7_draws_53 (Nat.le_of_ble_eq_true rfl) rfl ?_
  refine g_aload_n X 3 dX7_draws_55 rfl rfl ?_
  refine g_iload_n X 2 dX7_draws_56 rfl rfl ?_
  refine g_lload_n X 1 dX7_draws_57 rfl rfl ?_
  obtain ⟨S3, eS3⟩ : ∃ z : St, z = giveS S (plN C w) x1 := ⟨_, rfl⟩
  refine g_callV X (As := [.int (nI (plN C w)), .long x1]) (rest := []) (m_X7_gives l D cI cJ cZ h th C N S Qk K P Y (plN C w) x1 hpl hW) kM_X7_133 kI_yX7_gives kS_yX7_gives kZ_RX7 kC_yX7_gives hV_X7_gives rfl rfl rfl 0 rfl (ci := 7) rfl ⟨Nat.le_of_ble_eq_true rfl, Nat.le_of_ble_eq_true rfl⟩ ⟨Nat.le_of_ble_eq_true rfl, Nat.le_of_ble_eq_true rfl⟩ (Nat.le_of_ble_eq_true rfl) dX7_draws_58 rfl [0, 1, 2, 3, 4, 5, 6, 7, 8, 9, 10, 11, 12, 13, 14, 15, 16] rfl rfl (g_kk1 (w2 := wM h cI cJ cZ th C N S3 Qk K P Y) (by rw [eS3]; exact ⟨[0, 1, 2, 3, 4, 5, 6, 7, 8, 9, 10, 11, 12, 13, 14, 15, 16], [], [0, 1, 2, 3, 4, 5, 6, 7, 8, 9, 10, 11, 12, 13, 14, 15, 16], [], rfl, rfl, rfl, rfl, by decide, rfl, rfl⟩) ?_)
  obtain ⟨x4, ex4⟩ : ∃ z : Int64, z = gone S (plN C w) x1 := ⟨_, rfl⟩
  refine g_st (st' := [.long x4]) (by rw [ex4]; first | done | rfl) ?_
  refine g_lstore X [(7, .long x4), (5, .long x2), (3, .long x1), (2, .int (nI (plN C w))), (0, .ref (h 0)), (1, .int (nI w))] dX7_draws_61 (Nat.le_of_ble_eq_true rfl) rfl ?_
  refine g_aload_n X 4 dX7_draws_63 rfl rfl ?_
  refine g_get X (C := RX7) (T := TX7) (N := 21) (v := .ref (h 1)) inlX7 0 rfl rfl 1 (Nat.le_of_ble_eq_true rfl) kF_X7_7 rfl dX7_draws_64 ?_
  refine g_bipush X (v := nI 78) dX7_draws_67 (by decide +kernel) ?_
  refine g_iload_n X 5 dX7_draws_69 rfl rfl ?_
  refine g_iadd X (v := nI (w + 78)) dX7_draws_70 ((nI_add _ _).trans (congrArg nI (by omega))) ?_
  refine g_dup2_11 X dX7_draws_71 rfl rfl ?_
  refine g_lald X 1 rfl (78 + w) (congrArg nI (show w + 78 = 78 + w by omega)) (by omega) (Nat.le_of_ble_eq_true rfl) (v := S3 7 w) (fl_7 _ _ (i := w) (by omega)) dX7_draws_72 ?_
  refine g_lload X 0 dX7_draws_73 rfl ?_
  refine g_ladd X (v := (S3 7 w) + x4) dX7_draws_75 rfl ?_
  obtain ⟨S5, eS5⟩ : ∃ z : St, z = u2 S3 7 w ((S3 7 w) + x4) := ⟨_, rfl⟩
  refine g_last X (ws' := wM h cI cJ cZ th C N S5 Qk K P Y) 1 rfl (78 + w) (congrArg nI (show w + 78 = 78 + w by omega)) (by omega) (Nat.le_of_ble_eq_true rfl) dX7_draws_76 (by rw [eS5]; first | done | (rw [flu_7 _ _ (i := w) _ (by omega)]; rfl)) ?_
  refine g_aload_n X 4 dX7_draws_77 rfl rfl ?_
  refine g_get X (C := RX7) (T := TX7) (N := 21) (v := .ref (h 1)) inlX7 0 rfl rfl 1 (Nat.le_of_ble_eq_true rfl) kF_X7_7 rfl dX7_draws_78 ?_
  refine g_bipush X (v := nI 88) dX7_draws_81 (by decide +kernel) ?_
  refine g_iload_n X 5 dX7_draws_83 rfl rfl ?_
  refine g_iadd X (v := nI (w + 88)) dX7_draws_84 ((nI_add _ _).trans (congrArg nI (by omega))) ?_
  refine g_lload X 0 dX7_draws_85 rfl ?_
  refine g_lconst X (v := 0) dX7_draws_87 (by decide +kernel) ?_
  have J9 : ∀ (v8 : Int64), v8 = (if x4 ≤ (0 : Int64) then S5 8 w else if ¬ (S5 8 w) = (-1 : Int64) then S5 8 w else S5 13 0) → g_G p l e rm_X7_draws s m args below meth c D A 12 0 0 Q (wM h cI cJ cZ th C N S5 Qk K P Y) [(0, .ref (h 0)), (1, .int (nI w)), (2, .int (nI (plN C w))), (3, .long x1), (5, .long x2)] 128 [.long v8, .int (nI (w + 88)), .ref (h 1)] := by
    intro v8 ev8
    obtain ⟨S10, eS10⟩ : ∃ z : St, z = u2 S5 8 w v8 := ⟨_, rfl⟩
    refine g_last X (ws' := wM h cI cJ cZ th C N S10 Qk K P Y) 1 rfl (88 + w) (congrArg nI (show w + 88 = 88 + w by omega)) (by omega) (Nat.le_of_ble_eq_true rfl) dX7_draws_128 (by rw [eS10]; first | done | (rw [flu_8 _ _ (i := w) _ (by omega)]; rfl)) ?_
    replace eS10 : S10 = dM1 S (plN C w) w x1 := by rw [eS10]; (try rw [ev8]); (try rw [eS5]); (try rw [ex4]); (try rw [eS3]); first | done | rfl
    refine g_lload X 4 dX7_draws_129 rfl ?_
    refine g_ldc2 X kL_X7_125 dX7_draws_131 ?_
    have J13 : ∀ (v12 : Int64), v12 = (if x2 ≤ (100 : Int64) then (0 : Int64) else (x1 * (if (200 : Int64) < (x2 - (100 : Int64)) then (200 : Int64) else x2 - (100 : Int64))) / (400 : Int64)) → g_G p l e rm_X7_draws s m args below meth c D A 12 0 0 Q (wM h cI cJ cZ th C N S10 Qk K P Y) [(0, .ref (h 0)), (1, .int (nI w)), (2, .int (nI (plN C w))), (3, .long x1), (5, .long x2)] 160 [.long v12] := by
      intro v12 ev12
      replace ev12 := ev12.trans (show _ = stm x1 x2 from rfl)
      refine g_lstore X [(9, .long v12), (0, .ref (h 0)), (1, .int (nI w)), (2, .int (nI (plN C w))), (3, .long x1), (5, .long x2)] dX7_draws_160 (Nat.le_of_ble_eq_true rfl) rfl ?_
      refine g_aload_n X 1 dX7_draws_162 rfl rfl ?_
      refine g_get X (C := RX7) (T := TX7) (N := 21) (v := .ref (h 1)) inlX7 0 rfl rfl 1 (Nat.le_of_ble_eq_true rfl) kF_X7_7 rfl dX7_draws_163 ?_
      refine g_sipush X (v := nI 147) dX7_draws_166 (by decide +kernel) ?_
      refine g_dup2_11 X dX7_draws_169 rfl rfl ?_
      refine g_lald X 1 rfl (146 + 1) (congrArg nI (show 147 = 146 + 1 by omega)) (by omega) (Nat.le_of_ble_eq_true rfl) (v := S10 12 1) (fl_12 _ _ (i := 1) (by omega)) dX7_draws_170 ?_
      refine g_lload X 0 dX7_draws_171 rfl ?_
      refine g_ladd X (v := (S10 12 1) + v12) dX7_draws_173 rfl ?_
      obtain ⟨S14, eS14⟩ : ∃ z : St, z = u2 S10 12 1 ((S10 12 1) + v12) := ⟨_, rfl⟩
      refine g_last X (ws' := wM h cI cJ cZ th C N S14 Qk K P Y) 1 rfl (146 + 1) (congrArg nI (show 147 = 146 + 1 by omega)) (by omega) (Nat.le_of_ble_eq_true rfl) dX7_draws_174 (by rw [eS14]; first | done | (rw [flu_12 _ _ (i := 1) _ (by omega)]; rfl)) ?_
      refine g_aload_n X 1 dX7_draws_175 rfl rfl ?_
      refine g_get X (C := RX7) (T := TX7) (N := 21) (v := .ref (h 1)) inlX7 0 rfl rfl 1 (Nat.le_of_ble_eq_true rfl) kF_X7_7 rfl dX7_draws_176 ?_
      refine g_sipush X (v := nI 152) dX7_draws_179 (by decide +kernel) ?_
      refine g_dup2_11 X dX7_draws_182 rfl rfl ?_
      refine g_lald X 1 rfl (146 + 6) (congrArg nI (show 152 = 146 + 6 by omega)) (by omega) (Nat.le_of_ble_eq_true rfl) (v := S10 12 6) ((fl_12 _ _ (i := 6) (by omega)).trans (by rw [eS14]; exact u2_ne _ _ _ (by decide))) dX7_draws_183 ?_
      refine g_lload X 5 dX7_draws_184 rfl ?_
      refine g_ldc2 X kL_X7_141 dX7_draws_186 ?_
      have J17 : ∀ (v16 : Int64), v16 = (if x2 ≤ (60 : Int64) then (0 : Int64) else (v12 * (x2 - (60 : Int64))) / (10 : Int64)) → g_G p l e rm_X7_draws s m args below meth c D A 12 0 0 Q (wM h cI cJ cZ th C N S14 Qk K P Y) [(0, .ref (h 0)), (1, .int (nI w)), (2, .int (nI (plN C w))), (3, .long x1), (5, .long x2), (9, .long v12)] 210 [.long v16, .long (S10 12 6), .int (nI 152), .ref (h 1)] := by
        intro v16 ev16
        refine g_ladd X (v := (S10 12 6) + v16) dX7_draws_210 rfl ?_
        obtain ⟨S18, eS18⟩ : ∃ z : St, z = u2 S14 12 6 ((S10 12 6) + v16) := ⟨_, rfl⟩
        refine g_last X (ws' := wM h cI cJ cZ th C N S18 Qk K P Y) 1 rfl (146 + 6) (congrArg nI (show 152 = 146 + 6 by omega)) (by omega) (Nat.le_of_ble_eq_true rfl) dX7_draws_211 (by rw [eS18]; first | done | (rw [flu_12 _ _ (i := 6) _ (by omega)]; rfl)) ?_
        refine g_aload_n X 0 dX7_draws_212 rfl rfl ?_
        refine g_get X (C := RX7) (T := TX7) (N := 21) (v := .ref (h 1)) inlX7 0 rfl rfl 1 (Nat.le_of_ble_eq_true rfl) kF_X7_7 rfl dX7_draws_213 ?_
        refine g_sipush X (v := nI 153) dX7_draws_216 (by decide +kernel) ?_
        refine g_dup2_11 X dX7_draws_219 rfl rfl ?_
        refine g_lald X 1 rfl (146 + 7) (congrArg nI (show 153 = 146 + 7 by omega)) (by omega) (Nat.le_of_ble_eq_true rfl) (v := S10 12 7) ((fl_12 _ _ (i := 7) (by omega)).trans (by rw [eS18, eS14]; exact (u2_ne _ _ _ (by decide)).trans (u2_ne _ _ _ (by decide)))) dX7_draws_220 ?_
        refine g_lload_n X 3 dX7_draws_221 rfl rfl ?_
        refine g_lload X 4 dX7_draws_222 rfl ?_
        refine g_lmul X (v := x1 * x2) dX7_draws_224 rfl ?_
        refine g_ladd X (v := (S10 12 7) + (x1 * x2)) dX7_draws_225 rfl ?_
        obtain ⟨S19, eS19⟩ : ∃ z : St, z = u2 S18 12 7 ((S10 12 7) + (x1 * x2)) := ⟨_, rfl⟩
        refine g_last X (ws' := wM h cI cJ cZ th C N S19 Qk K P Y) 1 rfl (146 + 7) (congrArg nI (show 153 = 146 + 7 by omega)) (by omega) (Nat.le_of_ble_eq_true rfl) dX7_draws_226 (by rw [eS19]; first | done | (rw [flu_12 _ _ (i := 7) _ (by omega)]; rfl)) ?_
        refine g_aload_n X 0 dX7_draws_227 rfl rfl ?_
        refine g_get X (C := RX7) (T := TX7) (N := 21) (v := .ref (h 1)) inlX7 0 rfl rfl 1 (Nat.le_of_ble_eq_true rfl) kF_X7_7 rfl dX7_draws_228 ?_
        refine g_bipush X (v := nI 58) dX7_draws_231 (by decide +kernel) ?_
        refine g_iload_n X 1 dX7_draws_233 rfl rfl ?_
        refine g_iadd X (v := nI (w + 58)) dX7_draws_234 ((nI_add _ _).trans (congrArg nI (by omega))) ?_
        refine g_lload_n X 3 dX7_draws_235 rfl rfl ?_
        obtain ⟨S20, eS20⟩ : ∃ z : St, z = u2 S19 5 w x1 := ⟨_, rfl⟩
        refine g_last X (ws' := wM h cI cJ cZ th C N S20 Qk K P Y) 1 rfl (58 + w) (congrArg nI (show w + 58 = 58 + w by omega)) (by omega) (Nat.le_of_ble_eq_true rfl) dX7_draws_236 (by rw [eS20]; first | done | (rw [flu_5 _ _ (i := w) _ (by omega)]; rfl)) ?_
        replace eS20 : S20 = dM2 S (plN C w) w x1 x2 := by rw [eS20]; (try rw [eS19]); (try rw [eS18]); (try rw [ev16]); (try rw [eS14]); (try rw [ev12]); (try rw [eS10]); first | done | rfl
        refine g_lload X 4 dX7_draws_237 rfl ?_
        refine g_ldc2 X kL_X7_143 dX7_draws_239 ?_
        have J25 : ∀ (S24 : St), S24 = (if x2 ≤ (160 : Int64) then S20 else if x1 ≤ (0 : Int64) then S20 else (u2 S20 4 w (if (((S20 4 w) + (1 : Int64)) + (x1 / (500 : Int64))) < (100 : Int64) then ((S20 4 w) + (1 : Int64)) + (x1 / (500 : Int64)) else (100 : Int64)))) → g_G p l e rm_X7_draws s m args below meth c D A 12 0 0 Q (wM h cI cJ cZ th C N S24 Qk K P Y) [(0, .ref (h 0)), (1, .int (nI w)), (2, .int (nI (plN C w))), (3, .long x1), (9, .long v12)] 284 [] := by
          intro S24 eS24
          replace eS24 : S24 = dM3 S (plN C w) w x1 x2 := by rw [eS24]; (try rw [eS20]); first | done | rfl
          refine g_iconst X (v := nI 0) dX7_draws_284 (by decide +kernel) ?_
          refine g_istore X [(11, .int (nI 0)), (0, .ref (h 0)), (1, .int (nI w)), (2, .int (nI (plN C w))), (3, .long x1), (9, .long v12)] dX7_draws_285 (Nat.le_of_ble_eq_true rfl) rfl ?_
          have L26 : ∀ (n28 i27 : Nat) (S29 : St), i27 + n28 = (N 2) → S29 = itr (chgM C (plN C w) w x1) S24 i27 → g_G p l e rm_X7_draws s m args below meth c D A 12 0 0 Q (wM h cI cJ cZ th C N S29 Qk K P Y) [(0, .ref (h 0)), (1, .int (nI w)), (2, .int (nI (plN C w))), (3, .long x1), (9, .long v12), (11, .int (nI i27))] 287 [] := by
            intro n28
            induction n28 with
            | zero =>
              intro i27 S29 hi30 eS29
              obtain rfl : i27 = (N 2) := by omega
              refine g_iload X 5 dX7_draws_287 rfl ?_
              refine g_aload_n X 0 dX7_draws_289 rfl rfl ?_
              refine g_get X (C := RX7) (T := TX7) (N := 21) (v := .int (nI (N 2))) inlX7 0 rfl rfl 14 (Nat.le_of_ble_eq_true rfl) kF_X7_75 rfl dX7_draws_290 ?_
              refine g_icN_ge X (a := (N 2)) (b := N 2) (tgt := 339) (by omega) (by omega) dX7_draws_293 (by decide) (fun h31 => ?_) (fun h31 => absurd h31 (by omega))
              refine g_lload_n X 3 dX7_draws_339 rfl rfl ?_
              refine g_lload X 4 dX7_draws_340 rfl ?_
              refine g_lsub X (v := x1 - v12) dX7_draws_342 rfl ?_
              refine g_lret X hr hlk hQ dX7_draws_343 ?_
              show g_eq _ _ _ _
              try rw [eS29]
              try rw [eS24]
              try rw [ev12]
              try rw [ex2]
              try rw [ex1]
              refine ⟨?_, ?_⟩
              · rfl
              · rw [draw_m hC hpl]
            | succ n28 ihL26 =>
              intro i27 S29 hi30 eS29
              have hlti27 : i27 < (N 2) := by omega
              have hs := (hC.sp hlti27).2
              refine g_iload X 5 dX7_draws_287 rfl ?_
              refine g_aload_n X 0 dX7_draws_289 rfl rfl ?_
              refine g_get X (C := RX7) (T := TX7) (N := 21) (v := .int (nI (N 2))) inlX7 0 rfl rfl 14 (Nat.le_of_ble_eq_true rfl) kF_X7_75 rfl dX7_draws_290 ?_
              refine g_icN_ge X (a := i27) (b := N 2) (tgt := 339) (by omega) (by omega) dX7_draws_293 (by decide) (fun h32 => absurd h32 (by omega)) (fun h32 => ?_)
              refine g_aload_n X 0 dX7_draws_296 rfl rfl ?_
              refine g_get X (C := RX7) (T := TX7) (N := 21) (v := .ref (h 1)) inlX7 0 rfl rfl 1 (Nat.le_of_ble_eq_true rfl) kF_X7_7 rfl dX7_draws_297 ?_
              refine g_bipush X (v := nI 106) dX7_draws_300 (by decide +kernel) ?_
              refine g_bipush X (v := nI 10) dX7_draws_302 (by decide +kernel) ?_
              refine g_iload X 5 dX7_draws_304 rfl ?_
              refine g_imul X (v := nI (10 * i27)) dX7_draws_306 (pk_mul _ _) ?_
              refine g_iadd X (v := nI (10 * i27 + 106)) dX7_draws_307 ((nI_add _ _).trans (congrArg nI (by omega))) ?_
              refine g_iload_n X 1 dX7_draws_308 rfl rfl ?_
              refine g_iadd X (v := nI (10 * i27 + w + 106)) dX7_draws_309 ((nI_add _ _).trans (congrArg nI (by omega))) ?_
              refine g_dup2_11 X dX7_draws_310 rfl rfl ?_
              refine g_lald X 1 rfl (106 + (10 * i27 + w)) (congrArg nI (show 10 * i27 + w + 106 = 106 + (10 * i27 + w) by omega)) (by omega) (Nat.le_of_ble_eq_true rfl) (v := S29 11 (10 * i27 + w)) (fl_11 _ _ (i := 10 * i27 + w) (by omega)) dX7_draws_311 ?_
              refine g_iload_n X 2 dX7_draws_312 rfl rfl ?_
              refine g_aload_n X 0 dX7_draws_313 rfl rfl ?_
              refine g_get X (C := RX7) (T := TX7) (N := 21) (v := .ref (h 11)) inlX7 0 rfl rfl 15 (Nat.le_of_ble_eq_true rfl) kF_X7_42 rfl dX7_draws_314 ?_
              refine g_iload X 5 dX7_draws_317 rfl ?_
              refine g_iald X 11 rfl (i27) rfl (by omega) (Nat.le_of_ble_eq_true rfl) (v := nI (spN C i27)) (hC.sp (by omega)).1 dX7_draws_319 ?_
              refine g_callS X (As := [.int (nI (plN C w)), .int (nI (spN C i27))]) (rest := [.long (S29 11 (10 * i27 + w)), .int (nI (10 * i27 + w + 106)), .ref (h 1)]) (m_X7_isNear l D cI cJ cZ (plN C w) (spN C i27) hpl hs) kM_X7_115 kT_yX7_isNear kZ_RX7 kC_yX7_isNear hV_X7_isNear rfl rfl rfl ⟨Nat.le_of_ble_eq_true rfl, Nat.le_of_ble_eq_true rfl⟩ ⟨Nat.le_of_ble_eq_true rfl, Nat.le_of_ble_eq_true rfl⟩ (Nat.le_of_ble_eq_true rfl) dX7_draws_320 rfl [] rfl rfl (g_kk1 (w2 := wM h cI cJ cZ th C N S29 Qk K P Y) ⟨[], [0, 1, 2, 3, 4, 5, 6, 7, 8, 9, 10, 11, 12, 13, 14, 15, 16], [0, 1, 2, 3, 4, 5, 6, 7, 8, 9, 10, 11, 12, 13, 14, 15, 16], ([0, 1, 2, 3, 4, 5, 6, 7, 8, 9, 10, 11, 12, 13, 14, 15, 16].filterMap fun i => (wM h cI cJ cZ th C N S29 Qk K P Y)[i]?), rfl, rfl, rfl, rfl, by decide, rfl, rfl⟩ ?_)
              have J35 : ∀ (v34 : Int64), v34 = (if (nrB (plN C w) (spN C i27)) = false then (0 : Int64) else x1) → g_G p l e rm_X7_draws s m args below meth c D A 12 0 0 Q (wM h cI cJ cZ th C N S29 Qk K P Y) [(0, .ref (h 0)), (1, .int (nI w)), (2, .int (nI (plN C w))), (3, .long x1), (9, .long v12), (11, .int (nI i27))] 331 [.long v34, .long (S29 11 (10 * i27 + w)), .int (nI (10 * i27 + w + 106)), .ref (h 1)] := by
                intro v34 ev34
                refine g_ladd X (v := (S29 11 (10 * i27 + w)) + v34) dX7_draws_331 rfl ?_
                obtain ⟨S36, eS36⟩ : ∃ z : St, z = u2 S29 11 (10 * i27 + w) ((S29 11 (10 * i27 + w)) + v34) := ⟨_, rfl⟩
                refine g_last X (ws' := wM h cI cJ cZ th C N S36 Qk K P Y) 1 rfl (106 + (10 * i27 + w)) (congrArg nI (show 10 * i27 + w + 106 = 106 + (10 * i27 + w) by omega)) (by omega) (Nat.le_of_ble_eq_true rfl) dX7_draws_332 (by rw [eS36]; first | done | (rw [flu_11 _ _ (i := 10 * i27 + w) _ (by omega)]; rfl)) ?_
                refine g_iinc X [(11, .int (nI (i27 + 1))), (0, .ref (h 0)), (1, .int (nI w)), (2, .int (nI (plN C w))), (3, .long x1), (9, .long v12)] (q := 5) (v := nI (i27 + 1)) dX7_draws_333 rfl ((congrArg (fun z => nI (i27) + z) (show Int32.ofInt 1 = nI 1 by decide +kernel)).trans ((nI_add _ _).trans (congrArg nI (by omega)))) (Nat.le_of_ble_eq_true rfl) rfl ?_
                refine g_goto X (tgt := 287) dX7_draws_336 (by decide) ?_
                refine g_lv _ [1, 2, 3, 4, 5, 0] rfl ?_
                exact ihL26 (i27 + 1) _ (by omega) (by (try rw [eS36]); (try rw [ev34]); (try rw [eS29]); first | done | (rfl))
              refine g_bI_eq X (tgt := 330) dX7_draws_323 (by decide) (fun h33 => ?_) (fun h33 => ?_)
              · --
                refine g_lconst X (v := 0) dX7_draws_330 (by decide +kernel) ?_
                exact J35 _ (by rw [if_pos (c := (nrB (plN C w) (spN C i27)) = false) h33])
              · --
                refine g_lload_n X 3 dX7_draws_326 rfl rfl ?_
                refine g_goto X (tgt := 331) dX7_draws_327 (by decide) ?_
                exact J35 _ (by rw [if_neg (c := (nrB (plN C w) (spN C i27)) = false) (by rw [h33]; decide)])
          refine g_lv _ [1, 2, 3, 4, 5, 0] rfl ?_
          exact L26 ((N 2)) 0 _ (by omega) (by first | rfl | ((try rw [eS24]); (try rw [ev12]); (try rw [ex2]); (try rw [ex1]); first | done | rfl))
        refine g_lj_le X (tgt := 284) (pc1 := 243) dX7_draws_242 rfl dX7_draws_243 (by decide) (fun h21 => ?_) (fun h21 => ?_)
        · --
          refine g_lv _ [0, 1, 2, 3, 5] rfl ?_
          exact J25 _ (by rw [if_pos (c := x2 ≤ (160 : Int64)) h21])
        · --
          refine g_lload_n X 3 dX7_draws_246 rfl rfl ?_
          refine g_lconst X (v := 0) dX7_draws_247 (by decide +kernel) ?_
          refine g_lj_le X (tgt := 284) (pc1 := 249) dX7_draws_248 rfl dX7_draws_249 (by decide) (fun h22 => ?_) (fun h22 => ?_)
          · --
            refine g_lv _ [0, 1, 2, 3, 5] rfl ?_
            exact J25 _ (by rw [if_neg (c := x2 ≤ (160 : Int64)) h21, if_pos (c := x1 ≤ (0 : Int64)) h22])
          · --
            refine g_aload_n X 0 dX7_draws_252 rfl rfl ?_
            refine g_get X (C := RX7) (T := TX7) (N := 21) (v := .ref (h 1)) inlX7 0 rfl rfl 1 (Nat.le_of_ble_eq_true rfl) kF_X7_7 rfl dX7_draws_253 ?_
            refine g_bipush X (v := nI 48) dX7_draws_256 (by decide +kernel) ?_
            refine g_iload_n X 1 dX7_draws_258 rfl rfl ?_
            refine g_iadd X (v := nI (w + 48)) dX7_draws_259 ((nI_add _ _).trans (congrArg nI (by omega))) ?_
            refine g_ldc2 X kL_X7_125 dX7_draws_260 ?_
            refine g_aload_n X 0 dX7_draws_263 rfl rfl ?_
            refine g_get X (C := RX7) (T := TX7) (N := 21) (v := .ref (h 1)) inlX7 0 rfl rfl 1 (Nat.le_of_ble_eq_true rfl) kF_X7_7 rfl dX7_draws_264 ?_
            refine g_bipush X (v := nI 48) dX7_draws_267 (by decide +kernel) ?_
            refine g_iload_n X 1 dX7_draws_269 rfl rfl ?_
            refine g_iadd X (v := nI (w + 48)) dX7_draws_270 ((nI_add _ _).trans (congrArg nI (by omega))) ?_
            refine g_lald X 1 rfl (48 + w) (congrArg nI (show w + 48 = 48 + w by omega)) (by omega) (Nat.le_of_ble_eq_true rfl) (v := S20 4 w) (fl_4 _ _ (i := w) (by omega)) dX7_draws_271 ?_
            refine g_lconst X (v := 1) dX7_draws_272 (by decide +kernel) ?_
            refine g_ladd X (v := (S20 4 w) + (1 : Int64)) dX7_draws_273 rfl ?_
            refine g_lload_n X 3 dX7_draws_274 rfl rfl ?_
            refine g_ldc2 X kL_X7_145 dX7_draws_275 ?_
            refine g_ldiv X (v := x1 / (500 : Int64)) dX7_draws_278 (by decide +kernel) rfl ?_
            refine g_ladd X (v := ((S20 4 w) + (1 : Int64)) + (x1 / (500 : Int64))) dX7_draws_279 rfl ?_
            refine g_callS X (As := [.long (100 : Int64), .long (((S20 4 w) + (1 : Int64)) + (x1 / (500 : Int64)))]) (rest := [.int (nI (w + 48)), .ref (h 1)]) (m_X7_lesser l D cI cJ cZ (100 : Int64) (((S20 4 w) + (1 : Int64)) + (x1 / (500 : Int64))) ) kM_X7_129 kT_yX7_lesser kZ_RX7 kC_yX7_lesser hV_X7_lesser rfl rfl rfl ⟨Nat.le_of_ble_eq_true rfl, Nat.le_of_ble_eq_true rfl⟩ ⟨Nat.le_of_ble_eq_true rfl, Nat.le_of_ble_eq_true rfl⟩ (Nat.le_of_ble_eq_true rfl) dX7_draws_280 rfl [] rfl rfl (g_kk1 (w2 := wM h cI cJ cZ th C N S20 Qk K P Y) ⟨[], [0, 1, 2, 3, 4, 5, 6, 7, 8, 9, 10, 11, 12, 13, 14, 15, 16], [0, 1, 2, 3, 4, 5, 6, 7, 8, 9, 10, 11, 12, 13, 14, 15, 16], ([0, 1, 2, 3, 4, 5, 6, 7, 8, 9, 10, 11, 12, 13, 14, 15, 16].filterMap fun i => (wM h cI cJ cZ th C N S20 Qk K P Y)[i]?), rfl, rfl, rfl, rfl, by decide, rfl, rfl⟩ ?_)
            obtain ⟨S23, eS23⟩ : ∃ z : St, z = u2 S20 4 w (if (((S20 4 w) + (1 : Int64)) + (x1 / (500 : Int64))) < (100 : Int64) then ((S20 4 w) + (1 : Int64)) + (x1 / (500 : Int64)) else (100 : Int64)) := ⟨_, rfl⟩
            refine g_last X (ws' := wM h cI cJ cZ th C N S23 Qk K P Y) 1 rfl (48 + w) (congrArg nI (show w + 48 = 48 + w by omega)) (by omega) (Nat.le_of_ble_eq_true rfl) dX7_draws_283 (by rw [eS23]; first | done | (rw [flu_4 _ _ (i := w) _ (by omega)]; rfl)) ?_
            refine g_lv _ [0, 1, 2, 3, 5] rfl ?_
            exact J25 _ (by (try rw [eS23]); rw [if_neg (c := x2 ≤ (160 : Int64)) h21, if_neg (c := x1 ≤ (0 : Int64)) h22])
      refine g_lj_le X (tgt := 209) (pc1 := 190) dX7_draws_189 rfl dX7_draws_190 (by decide) (fun h15 => ?_) (fun h15 => ?_)
      · --
        refine g_lconst X (v := 0) dX7_draws_209 (by decide +kernel) ?_
        refine g_lv _ [1, 2, 3, 4, 5, 0] rfl ?_
        exact J17 _ (by rw [if_pos (c := x2 ≤ (60 : Int64)) h15])
      · --
        refine g_lload X 0 dX7_draws_193 rfl ?_
        refine g_lload X 5 dX7_draws_195 rfl ?_
        refine g_ldc2 X kL_X7_141 dX7_draws_197 ?_
        refine g_lsub X (v := x2 - (60 : Int64)) dX7_draws_200 rfl ?_
        refine g_lmul X (v := v12 * (x2 - (60 : Int64))) dX7_draws_201 rfl ?_
        refine g_ldc2 X kL_X7_127 dX7_draws_202 ?_
        refine g_ldiv X (v := (v12 * (x2 - (60 : Int64))) / (10 : Int64)) dX7_draws_205 (by decide +kernel) rfl ?_
        refine g_goto X (tgt := 210) dX7_draws_206 (by decide) ?_
        refine g_lv _ [1, 2, 3, 4, 5, 0] rfl ?_
        exact J17 _ (by rw [if_neg (c := x2 ≤ (60 : Int64)) h15])
    refine g_lj_le X (tgt := 159) (pc1 := 135) dX7_draws_134 rfl dX7_draws_135 (by decide) (fun h11 => ?_) (fun h11 => ?_)
    · --
      refine g_lconst X (v := 0) dX7_draws_159 (by decide +kernel) ?_
      exact J13 _ (by rw [if_pos (c := x2 ≤ (100 : Int64)) h11])
    · --
      refine g_lload_n X 3 dX7_draws_138 rfl rfl ?_
      refine g_lload X 4 dX7_draws_139 rfl ?_
      refine g_ldc2 X kL_X7_125 dX7_draws_141 ?_
      refine g_lsub X (v := x2 - (100 : Int64)) dX7_draws_144 rfl ?_
      refine g_ldc2 X kL_X7_137 dX7_draws_145 ?_
      refine g_callS X (As := [.long (x2 - (100 : Int64)), .long (200 : Int64)]) (rest := [.long x1]) (m_X7_lesser l D cI cJ cZ (x2 - (100 : Int64)) (200 : Int64) ) kM_X7_129 kT_yX7_lesser kZ_RX7 kC_yX7_lesser hV_X7_lesser rfl rfl rfl ⟨Nat.le_of_ble_eq_true rfl, Nat.le_of_ble_eq_true rfl⟩ ⟨Nat.le_of_ble_eq_true rfl, Nat.le_of_ble_eq_true rfl⟩ (Nat.le_of_ble_eq_true rfl) dX7_draws_148 rfl [] rfl rfl (g_kk1 (w2 := wM h cI cJ cZ th C N S10 Qk K P Y) ⟨[], [0, 1, 2, 3, 4, 5, 6, 7, 8, 9, 10, 11, 12, 13, 14, 15, 16], [0, 1, 2, 3, 4, 5, 6, 7, 8, 9, 10, 11, 12, 13, 14, 15, 16], ([0, 1, 2, 3, 4, 5, 6, 7, 8, 9, 10, 11, 12, 13, 14, 15, 16].filterMap fun i => (wM h cI cJ cZ th C N S10 Qk K P Y)[i]?), rfl, rfl, rfl, rfl, by decide, rfl, rfl⟩ ?_)
      refine g_lmul X (v := x1 * (if (200 : Int64) < (x2 - (100 : Int64)) then (200 : Int64) else x2 - (100 : Int64))) dX7_draws_151 rfl ?_
      refine g_ldc2 X kL_X7_139 dX7_draws_152 ?_
      refine g_ldiv X (v := (x1 * (if (200 : Int64) < (x2 - (100 : Int64)) then (200 : Int64) else x2 - (100 : Int64))) / (400 : Int64)) dX7_draws_155 (by decide +kernel) rfl ?_
      refine g_goto X (tgt := 160) dX7_draws_156 (by decide) ?_
      exact J13 _ (by rw [if_neg (c := x2 ≤ (100 : Int64)) h11])
  refine g_lj_le X (tgt := 119) (pc1 := 89) dX7_draws_88 rfl dX7_draws_89 (by decide) (fun h6 => ?_) (fun h6 => ?_)
  · --
    refine g_aload_n X 4 dX7_draws_119 rfl rfl ?_
    refine g_get X (C := RX7) (T := TX7) (N := 21) (v := .ref (h 1)) inlX7 0 rfl rfl 1 (Nat.le_of_ble_eq_true rfl) kF_X7_7 rfl dX7_draws_120 ?_
    refine g_bipush X (v := nI 88) dX7_draws_123 (by decide +kernel) ?_
    refine g_iload_n X 5 dX7_draws_125 rfl rfl ?_
    refine g_iadd X (v := nI (w + 88)) dX7_draws_126 ((nI_add _ _).trans (congrArg nI (by omega))) ?_
    refine g_lald X 1 rfl (88 + w) (congrArg nI (show w + 88 = 88 + w by omega)) (by omega) (Nat.le_of_ble_eq_true rfl) (v := S5 8 w) (fl_8 _ _ (i := w) (by omega)) dX7_draws_127 ?_
    refine g_lv _ [4, 5, 3, 2, 1] rfl ?_
    exact J9 _ (by rw [if_pos (c := x4 ≤ (0 : Int64)) h6])
  · --
    refine g_aload_n X 4 dX7_draws_92 rfl rfl ?_
    refine g_get X (C := RX7) (T := TX7) (N := 21) (v := .ref (h 1)) inlX7 0 rfl rfl 1 (Nat.le_of_ble_eq_true rfl) kF_X7_7 rfl dX7_draws_93 ?_
    refine g_bipush X (v := nI 88) dX7_draws_96 (by decide +kernel) ?_
    refine g_iload_n X 5 dX7_draws_98 rfl rfl ?_
    refine g_iadd X (v := nI (w + 88)) dX7_draws_99 ((nI_add _ _).trans (congrArg nI (by omega))) ?_
    refine g_lald X 1 rfl (88 + w) (congrArg nI (show w + 88 = 88 + w by omega)) (by omega) (Nat.le_of_ble_eq_true rfl) (v := S5 8 w) (fl_8 _ _ (i := w) (by omega)) dX7_draws_100 ?_
    refine g_ldc2 X kL_X7_99 dX7_draws_101 ?_
    refine g_lj_ne X (tgt := 119) (pc1 := 105) dX7_draws_104 rfl dX7_draws_105 (by decide) (fun h7 => ?_) (fun h7 => ?_)
    · --
      refine g_aload_n X 4 dX7_draws_119 rfl rfl ?_
      refine g_get X (C := RX7) (T := TX7) (N := 21) (v := .ref (h 1)) inlX7 0 rfl rfl 1 (Nat.le_of_ble_eq_true rfl) kF_X7_7 rfl dX7_draws_120 ?_
      refine g_bipush X (v := nI 88) dX7_draws_123 (by decide +kernel) ?_
      refine g_iload_n X 5 dX7_draws_125 rfl rfl ?_
      refine g_iadd X (v := nI (w + 88)) dX7_draws_126 ((nI_add _ _).trans (congrArg nI (by omega))) ?_
      refine g_lald X 1 rfl (88 + w) (congrArg nI (show w + 88 = 88 + w by omega)) (by omega) (Nat.le_of_ble_eq_true rfl) (v := S5 8 w) (fl_8 _ _ (i := w) (by omega)) dX7_draws_127 ?_
      refine g_lv _ [4, 5, 3, 2, 1] rfl ?_
      exact J9 _ (by rw [if_neg (c := x4 ≤ (0 : Int64)) h6, if_pos (c := ¬ (S5 8 w) = (-1 : Int64)) h7])
    · --
      refine g_aload_n X 4 dX7_draws_108 rfl rfl ?_
      refine g_get X (C := RX7) (T := TX7) (N := 21) (v := .ref (h 1)) inlX7 0 rfl rfl 1 (Nat.le_of_ble_eq_true rfl) kF_X7_7 rfl dX7_draws_109 ?_
      refine g_sipush X (v := nI 154) dX7_draws_112 (by decide +kernel) ?_
      refine g_lald X 1 rfl (154 + 0) (congrArg nI (show 154 = 154 + 0 by omega)) (by omega) (Nat.le_of_ble_eq_true rfl) (v := S5 13 0) (fl_13 _ _ (i := 0) (by omega)) dX7_draws_115 ?_
      refine g_goto X (tgt := 128) dX7_draws_116 (by decide) ?_
      refine g_lv _ [4, 5, 3, 2, 1] rfl ?_
      exact J9 _ (by rw [if_neg (c := x4 ≤ (0 : Int64)) h6, if_neg (c := ¬ (S5 8 w) = (-1 : Int64)) (fun z => z h7)])
