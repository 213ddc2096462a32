/-! wells -/
def n2 (N : Nat → Nat) (c v : Nat) : Nat → Nat := fun k => if k = c then v else N k
def drw (C : Cf) (S : St) (w : Nat) : Bool := if ¬ C 3 w = 0 then false else if ¬ (S 6 w).toInt32 = 0 then false else true
def ret_ (C : Cf) (S : St) (w : Nat) : Bool := if C 3 w = 0 then false else if ¬ (S 6 w).toInt32 = 0 then false else true
def muN (C : Cf) (w : Nat) : Nat := (C 4 w).toNatClampNeg
def scN (S : St) (w : Nat) : Nat := (S 4 w).toInt.toNat
def wd (C : Cf) (S : St) (w : Nat) : Int64 := lN (muN C w * (100 - scN S w) / 100)
def growS (S : St) (w : Nat) (d : Int64) : St := u2 S 4 w (if 100 < S 4 w + 1 + d / 500 then 100 else S 4 w + 1 + d / 500)
def findS (S : St) (w : Nat) (x : Int64) : St := if x ≤ 0 then u2 S 7 w (S 7 w + x) else if ¬ S 8 w = -1 then u2 S 7 w (S 7 w + x) else u2 (u2 S 7 w (S 7 w + x)) 8 w (S 13 0)
def wgt (C : Cf) (S : St) (n : Nat) : Int64 := itr (fun w a => if ret_ C S w = false then a else a + (C 4 w).toInt64) 0 n
def tellW (C : Cf) (S : St) (w k : Nat) : Int64 := if k = 0 then (C 2 w).toInt64 else if k = 1 then (C 4 w).toInt64 else if k = 2 then (S 4 w).toInt32.toInt64 else if k = 3 then S 5 w else if k = 4 then (if (S 6 w).toInt32 = 0 then 0 else 1) else if k = 5 then S 7 w else (S 8 w).toInt32.toInt64
theorem n_mul {a b : Nat} (ha : a ≤ 1000) (hb : b ≤ 100) : a * b < 2 ^ 31 := by
  have := Nat.mul_le_mul ha hb
  omega
theorem f_m1 {x : Int64} (h : -1 ≤ x.toInt ∧ x.toInt ≤ 1000) : x.toInt32 = (-1 : Int32) ↔ x = -1 := by
  constructor
  · intro e
    have h1 := congrArg Int32.toInt e
    rw [Int64.toInt_toInt32] at h1
    have h3 : (-1 : Int32).toInt = -1 := by decide
    rw [h3, Int.bmod_eq_of_le (by omega) (by omega)] at h1
    apply Int64.toInt_inj.mp
    rw [h1]; decide
  · rintro rfl; decide

theorem hV_X5_isDrawing : yX5_isDrawing.cls = RX5 ∧ yX5_isDrawing.cls ≠ "java/lang/invoke/MethodHandle" ∧ yX5_isDrawing.cls ≠ "java/lang/invoke/VarHandle" ∧ (parseMethodDescriptor yX5_isDrawing.desc).map (fun d => d.parameters.length) = some 1 := by decide +kernel
abbrev rm_X5_isDrawing : Room := { frames := 0, cells := 0, slots := 0, locals := 0 }
set_option maxRecDepth 100000 in
set_option maxHeartbeats 4000000 in
theorem m_X5_isDrawing (l : Launch) (D : va_G) (cI cJ cZ : ClassId) (g : Nat → Nat) (C : Cf) (N : Nat → Nat) (S : St) (w : Nat) (hw : w < 10) : g_Ct l D cI cJ cZ yX5_isDrawing cX5_isDrawing 2 (some .boolean) rm_X5_isDrawing 0 0 [.ref (g 0), .int (nI w)] (wW g cI cJ cZ C N S) (g_eq (some (.int (bI (drw C S w)))) (wW g cI cJ cZ C N S)) := by
  refine g_body RX5 [(0, .ref (g 0)), (1, .int (nI w))] kH_X5 rfl (Nat.le_of_ble_eq_true rfl) rfl ?_
  intro p e s m args below meth c A X hr hlk hmn Q hQ
  refine g_aload_n X 0 dX5_isDrawing_0 rfl rfl ?_
  refine g_get X (C := RX5) (T := TX5) (N := 9) (v := .ref (g 2)) inlX5 0 rfl rfl 2 (Nat.le_of_ble_eq_true rfl) kF_X5_19 rfl dX5_isDrawing_1 ?_
  refine g_iload_n X 1 dX5_isDrawing_4 rfl rfl ?_
  refine g_zald X 2 rfl (w) rfl (by omega) (Nat.le_of_ble_eq_true rfl) (v := C 3 w) rfl dX5_isDrawing_5 ?_
  have J4 : ∀ (v3 : Bool), v3 = (if ¬ (C 3 w) = 0 then false else if ¬ ((S 6 w).toInt32) = 0 then false else true) → g_G p l e rm_X5_isDrawing s m args below meth c D A 2 0 0 Q (wW g cI cJ cZ C N S) [] 23 [.int (bI v3)] := by
    intro v3 ev3
    refine g_zret X hr hlk hQ (bI_nar _) dX5_isDrawing_23 ?_
    show g_eq _ _ _ _
    try rw [ev3]
    exact ⟨rfl, rfl⟩
  refine g_if_ne X (tgt := 22) dX5_isDrawing_6 (by decide) (fun h1 => ?_) (fun h1 => ?_)
  · --
    refine g_iconst X (v := nI 0) dX5_isDrawing_22 (by decide +kernel) ?_
    refine g_lv _ [] rfl ?_
    exact J4 _ (by rw [if_pos (c := ¬ (C 3 w) = 0) h1])
  · --
    refine g_aload_n X 0 dX5_isDrawing_9 rfl rfl ?_
    refine g_get X (C := RX5) (T := TX5) (N := 9) (v := .ref (g 6)) inlX5 0 rfl rfl 6 (Nat.le_of_ble_eq_true rfl) kF_X5_33 rfl dX5_isDrawing_10 ?_
    refine g_iload_n X 1 dX5_isDrawing_13 rfl rfl ?_
    refine g_zald X 6 rfl (w) rfl (by omega) (Nat.le_of_ble_eq_true rfl) (v := (S 6 w).toInt32) rfl dX5_isDrawing_14 ?_
    refine g_if_ne X (tgt := 22) dX5_isDrawing_15 (by decide) (fun h2 => ?_) (fun h2 => ?_)
    · --
      refine g_iconst X (v := nI 0) dX5_isDrawing_22 (by decide +kernel) ?_
      refine g_lv _ [] rfl ?_
      exact J4 _ (by rw [if_neg (c := ¬ (C 3 w) = 0) (fun z => z h1), if_pos (c := ¬ ((S 6 w).toInt32) = 0) h2])
    · --
      refine g_iconst X (v := nI 1) dX5_isDrawing_18 (by decide +kernel) ?_
      refine g_goto X (tgt := 23) dX5_isDrawing_19 (by decide) ?_
      refine g_lv _ [] rfl ?_
      exact J4 _ (by rw [if_neg (c := ¬ (C 3 w) = 0) (fun z => z h1), if_neg (c := ¬ ((S 6 w).toInt32) = 0) (fun z => z h2)])
theorem hV_X5_isReturning : yX5_isReturning.cls = RX5 ∧ yX5_isReturning.cls ≠ "java/lang/invoke/MethodHandle" ∧ yX5_isReturning.cls ≠ "java/lang/invoke/VarHandle" ∧ (parseMethodDescriptor yX5_isReturning.desc).map (fun d => d.parameters.length) = some 1 := by decide +kernel
abbrev rm_X5_isReturning : Room := { frames := 0, cells := 0, slots := 0, locals := 0 }
set_option maxRecDepth 100000 in
set_option maxHeartbeats 4000000 in
theorem m_X5_isReturning (l : Launch) (D : va_G) (cI cJ cZ : ClassId) (g : Nat → Nat) (C : Cf) (N : Nat → Nat) (S : St) (w : Nat) (hw : w < 10) : g_Ct l D cI cJ cZ yX5_isReturning cX5_isReturning 2 (some .boolean) rm_X5_isReturning 0 0 [.ref (g 0), .int (nI w)] (wW g cI cJ cZ C N S) (g_eq (some (.int (bI (ret_ C S w)))) (wW g cI cJ cZ C N S)) := by
  refine g_body RX5 [(0, .ref (g 0)), (1, .int (nI w))] kH_X5 rfl (Nat.le_of_ble_eq_true rfl) rfl ?_
  intro p e s m args below meth c A X hr hlk hmn Q hQ
  refine g_aload_n X 0 dX5_isReturning_0 rfl rfl ?_
  refine g_get X (C := RX5) (T := TX5) (N := 9) (v := .ref (g 2)) inlX5 0 rfl rfl 2 (Nat.le_of_ble_eq_true rfl) kF_X5_19 rfl dX5_isReturning_1 ?_
  refine g_iload_n X 1 dX5_isReturning_4 rfl rfl ?_
  refine g_zald X 2 rfl (w) rfl (by omega) (Nat.le_of_ble_eq_true rfl) (v := C 3 w) rfl dX5_isReturning_5 ?_
  have J4 : ∀ (v3 : Bool), v3 = (if (C 3 w) = 0 then false else if ¬ ((S 6 w).toInt32) = 0 then false else true) → g_G p l e rm_X5_isReturning s m args below meth c D A 2 0 0 Q (wW g cI cJ cZ C N S) [] 23 [.int (bI v3)] := by
    intro v3 ev3
    refine g_zret X hr hlk hQ (bI_nar _) dX5_isReturning_23 ?_
    show g_eq _ _ _ _
    try rw [ev3]
    exact ⟨rfl, rfl⟩
  refine g_if_eq X (tgt := 22) dX5_isReturning_6 (by decide) (fun h1 => ?_) (fun h1 => ?_)
  · --
    refine g_iconst X (v := nI 0) dX5_isReturning_22 (by decide +kernel) ?_
    refine g_lv _ [] rfl ?_
    exact J4 _ (by rw [if_pos (c := (C 3 w) = 0) h1])
  · --
    refine g_aload_n X 0 dX5_isReturning_9 rfl rfl ?_
    refine g_get X (C := RX5) (T := TX5) (N := 9) (v := .ref (g 6)) inlX5 0 rfl rfl 6 (Nat.le_of_ble_eq_true rfl) kF_X5_33 rfl dX5_isReturning_10 ?_
    refine g_iload_n X 1 dX5_isReturning_13 rfl rfl ?_
    refine g_zald X 6 rfl (w) rfl (by omega) (Nat.le_of_ble_eq_true rfl) (v := (S 6 w).toInt32) rfl dX5_isReturning_14 ?_
    refine g_if_ne X (tgt := 22) dX5_isReturning_15 (by decide) (fun h2 => ?_) (fun h2 => ?_)
    · --
      refine g_iconst X (v := nI 0) dX5_isReturning_22 (by decide +kernel) ?_
      refine g_lv _ [] rfl ?_
      exact J4 _ (by rw [if_neg (c := (C 3 w) = 0) h1, if_pos (c := ¬ ((S 6 w).toInt32) = 0) h2])
    · --
      refine g_iconst X (v := nI 1) dX5_isReturning_18 (by decide +kernel) ?_
      refine g_goto X (tgt := 23) dX5_isReturning_19 (by decide) ?_
      refine g_lv _ [] rfl ?_
      exact J4 _ (by rw [if_neg (c := (C 3 w) = 0) h1, if_neg (c := ¬ ((S 6 w).toInt32) = 0) (fun z => z h2)])
theorem hV_X5_wouldDraw : yX5_wouldDraw.cls = RX5 ∧ yX5_wouldDraw.cls ≠ "java/lang/invoke/MethodHandle" ∧ yX5_wouldDraw.cls ≠ "java/lang/invoke/VarHandle" ∧ (parseMethodDescriptor yX5_wouldDraw.desc).map (fun d => d.parameters.length) = some 1 := by decide +kernel
abbrev rm_X5_wouldDraw : Room := { frames := 0, cells := 0, slots := 0, locals := 0 }
set_option maxRecDepth 100000 in
set_option maxHeartbeats 4000000 in
theorem m_X5_wouldDraw (l : Launch) (D : va_G) (cI cJ cZ : ClassId) (g : Nat → Nat) (C : Cf) (N : Nat → Nat) (S : St) (w : Nat) (hw : w < 10) (hm : C 4 w = nI (muN C w) ∧ muN C w ≤ 1000) (hc : S 4 w = lN (scN S w) ∧ scN S w ≤ 100) : g_Ct l D cI cJ cZ yX5_wouldDraw cX5_wouldDraw 2 (some .long) rm_X5_wouldDraw 0 0 [.ref (g 0), .int (nI w)] (wW g cI cJ cZ C N S) (g_eq (some (.long (wd C S w))) (wW g cI cJ cZ C N S)) := by
  refine g_body RX5 [(0, .ref (g 0)), (1, .int (nI w))] kH_X5 rfl (Nat.le_of_ble_eq_true rfl) rfl ?_
  intro p e s m args below meth c A X hr hlk hmn Q hQ
  have hm2 := hm.2
  have hc2 := hc.2
  have hmc := n_mul hm.2 (show 100 - scN S w ≤ 100 by omega)
  refine g_aload_n X 0 dX5_wouldDraw_0 rfl rfl ?_
  refine g_get X (C := RX5) (T := TX5) (N := 9) (v := .ref (g 3)) inlX5 0 rfl rfl 3 (Nat.le_of_ble_eq_true rfl) kF_X5_23 rfl dX5_wouldDraw_1 ?_
  refine g_iload_n X 1 dX5_wouldDraw_4 rfl rfl ?_
  refine g_iald X 3 rfl (w) rfl (by omega) (Nat.le_of_ble_eq_true rfl) (v := nI (muN C w)) hm.1 dX5_wouldDraw_5 ?_
  refine g_bipush X (v := nI 100) dX5_wouldDraw_6 (by decide +kernel) ?_
  refine g_aload_n X 0 dX5_wouldDraw_8 rfl rfl ?_
  refine g_get X (C := RX5) (T := TX5) (N := 9) (v := .ref (g 4)) inlX5 0 rfl rfl 4 (Nat.le_of_ble_eq_true rfl) kF_X5_26 rfl dX5_wouldDraw_9 ?_
  refine g_iload_n X 1 dX5_wouldDraw_12 rfl rfl ?_
  refine g_iald X 4 rfl (w) rfl (by omega) (Nat.le_of_ble_eq_true rfl) (v := nI (scN S w)) (by show (S 4 w).toInt32 = _; rw [hc.1]; exact lN_i _) dX5_wouldDraw_13 ?_
  refine g_isub X (v := nI (100 - (scN S w))) dX5_wouldDraw_14 (pk_sub (by omega)) ?_
  refine g_imul X (v := nI ((muN C w) * (100 - (scN S w)))) dX5_wouldDraw_15 (pk_mul _ _) ?_
  refine g_bipush X (v := nI 100) dX5_wouldDraw_16 (by decide +kernel) ?_
  refine g_idiv X (v := nI (muN C w * (100 - scN S w) / 100)) dX5_wouldDraw_18 (by decide +kernel) (pk_div hmc (by decide) (by decide)) ?_
  refine g_i2l X (v := wd C S w) dX5_wouldDraw_19 (nI_l (by omega)) ?_
  refine g_lret X hr hlk hQ dX5_wouldDraw_20 ?_
  show g_eq _ _ _ _
  exact ⟨rfl, rfl⟩
theorem hV_X5_growScale : yX5_growScale.cls = RX5 ∧ yX5_growScale.cls ≠ "java/lang/invoke/MethodHandle" ∧ yX5_growScale.cls ≠ "java/lang/invoke/VarHandle" ∧ (parseMethodDescriptor yX5_growScale.desc).map (fun d => d.parameters.length) = some 2 := by decide +kernel
abbrev rm_X5_growScale : Room := { frames := 1, cells := 0, slots := 0, locals := 23 }
set_option maxRecDepth 100000 in
set_option maxHeartbeats 4000000 in
theorem m_X5_growScale (l : Launch) (D : va_G) (cI cJ cZ : ClassId) (g : Nat → Nat) (C : Cf) (N : Nat → Nat) (S : St) (w : Nat) (d : Int64) (hw : w < 10) (hc : S 4 w = lN (scN S w) ∧ scN S w ≤ 100) : g_Ct l D cI cJ cZ yX5_growScale cX5_growScale 4 none rm_X5_growScale 0 0 [.ref (g 0), .int (nI w), .long d] (wW g cI cJ cZ C N S) (g_eq none (wW g cI cJ cZ C N (growS S w d))) := by
  refine g_body RX5 [(0, .ref (g 0)), (1, .int (nI w)), (2, .long d)] kH_X5 rfl (Nat.le_of_ble_eq_true rfl) rfl ?_
  intro p e s m args below meth c A X hr hlk hmn Q hQ
  have hc2 := hc.2
  refine g_aload_n X 0 dX5_growScale_0 rfl rfl ?_
  refine g_get X (C := RX5) (T := TX5) (N := 9) (v := .ref (g 4)) inlX5 0 rfl rfl 4 (Nat.le_of_ble_eq_true rfl) kF_X5_26 rfl dX5_growScale_1 ?_
  refine g_iload_n X 1 dX5_growScale_4 rfl rfl ?_
  refine g_aload_n X 0 dX5_growScale_5 rfl rfl ?_
  refine g_get X (C := RX5) (T := TX5) (N := 9) (v := .ref (g 4)) inlX5 0 rfl rfl 4 (Nat.le_of_ble_eq_true rfl) kF_X5_26 rfl dX5_growScale_6 ?_
  refine g_iload_n X 1 dX5_growScale_9 rfl rfl ?_
  refine g_iald X 4 rfl (w) rfl (by omega) (Nat.le_of_ble_eq_true rfl) (v := nI (scN S w)) (by show (S 4 w).toInt32 = _; rw [hc.1]; exact lN_i _) dX5_growScale_10 ?_
  refine g_iconst X (v := nI 1) dX5_growScale_11 (by decide +kernel) ?_
  refine g_iadd X (v := nI (scN S w + 1)) dX5_growScale_12 ((nI_add _ _).trans (congrArg nI (by omega))) ?_
  refine g_i2l X (v := S 4 w + 1) dX5_growScale_13 (by rw [hc.1, lN_1]; exact nI_l (by omega)) ?_
  refine g_lload_n X 2 dX5_growScale_14 rfl rfl ?_
  refine g_ldc2 X kL_X5_42 dX5_growScale_15 ?_
  refine g_ldiv X (v := d / (500 : Int64)) dX5_growScale_18 (by decide +kernel) rfl ?_
  refine g_ladd X (v := (S 4 w + 1) + (d / (500 : Int64))) dX5_growScale_19 rfl ?_
  refine g_ldc2 X kL_X5_44 dX5_growScale_20 ?_
  refine g_mmin_long X (v := if (100 : Int64) < ((S 4 w + 1) + (d / (500 : Int64))) then (100 : Int64) else (S 4 w + 1) + (d / (500 : Int64))) kT_min_long kM_X5_46 kZ_Math kC_min_long (Nat.le_of_ble_eq_true rfl) (Nat.le_of_ble_eq_true rfl) (Nat.le_of_ble_eq_true rfl) (Nat.le_of_ble_eq_true rfl) rfl dX5_growScale_23 ?_
  refine g_l2i X (v := (if (100 : Int64) < ((S 4 w + 1) + (d / (500 : Int64))) then (100 : Int64) else (S 4 w + 1) + (d / (500 : Int64))).toInt32) dX5_growScale_26 rfl ?_
  obtain ⟨S1, eS1⟩ : ∃ z : St, z = u2 S 4 w (if (100 : Int64) < ((S 4 w + 1) + (d / (500 : Int64))) then (100 : Int64) else (S 4 w + 1) + (d / (500 : Int64))) := ⟨_, rfl⟩
  refine g_iast X (ws' := wW g cI cJ cZ C N S1) 4 rfl (w) rfl (by omega) (Nat.le_of_ble_eq_true rfl) dX5_growScale_27 (by rw [eS1]; first | done | (rw [i32_updV _ _ (v := (if (100 : Int64) < ((S 4 w + 1) + (d / (500 : Int64))) then (100 : Int64) else (S 4 w + 1) + (d / (500 : Int64)))) rfl]; rfl)) ?_
  refine g_vret X hr hlk hQ dX5_growScale_28 ?_
  show g_eq _ _ _ _
  try rw [eS1]
  exact ⟨rfl, rfl⟩
theorem findS_oth (S : St) (w : Nat) (x : Int64) {c : Nat} (h7 : ¬ c = 7) (h8 : ¬ c = 8) : findS S w x c = S c := by
  unfold findS
  (repeat' split)
  · exact u2_c _ _ _ h7
  · exact u2_c _ _ _ h7
  · exact (u2_c _ _ _ h8).trans (u2_c _ _ _ h7)
theorem wF_w {f : Nat → Nat} {cI cJ cZ : ClassId} {C : Cf} {N : Nat → Nat} {S S' : St} {Qk : Nat → Int64} {Z : St} (h : ∀ c, ¬ (4 ≤ c ∧ c ≤ 8) → S' c = S c) : wF f cI cJ cZ C N S' Qk Z = (f 0, .inr (0, [.int (S 13 0).toInt32, .int (C 10 0), .ref (f 1), .ref (f 11), .ref (f 20), .ref (f 23), .ref (f 30), .ref (f 34), .long (Z 3 0), .long (Z 3 1), .long (Z 3 2)])) :: (wG (fun i => f (1 + i)) cI cJ C S Z ++ (wW (fun i => f (11 + i)) cI cJ cZ C N S' ++ (wU (fun i => f (20 + i)) cI C N ++ (wS (fun i => f (23 + i)) cI cJ C N S ++ (wQ (fun i => f (30 + i)) cI S Qk ++ [(f 34, .inl (cJ, 8, .inr (.inl (S 12))))]))))) := by
  unfold wF wG wS wQ
  rw [h 0 (by omega), h 1 (by omega), h 2 (by omega), h 3 (by omega), h 9 (by omega), h 10 (by omega), h 11 (by omega), h 12 (by omega), h 13 (by omega), h 14 (by omega)]
theorem wF_s {f : Nat → Nat} {cI cJ cZ : ClassId} {C : Cf} {N : Nat → Nat} {S S' : St} {Qk : Nat → Int64} {Z : St} (h : ∀ c, ¬ (9 ≤ c ∧ c ≤ 11) → S' c = S c) : wF f cI cJ cZ C N S' Qk Z = (f 0, .inr (0, [.int (S 13 0).toInt32, .int (C 10 0), .ref (f 1), .ref (f 11), .ref (f 20), .ref (f 23), .ref (f 30), .ref (f 34), .long (Z 3 0), .long (Z 3 1), .long (Z 3 2)])) :: (wG (fun i => f (1 + i)) cI cJ C S Z ++ (wW (fun i => f (11 + i)) cI cJ cZ C N S ++ (wU (fun i => f (20 + i)) cI C N ++ (wS (fun i => f (23 + i)) cI cJ C N S' ++ (wQ (fun i => f (30 + i)) cI S Qk ++ [(f 34, .inl (cJ, 8, .inr (.inl (S 12))))]))))) := by
  unfold wF wG wW wQ
  rw [h 0 (by omega), h 1 (by omega), h 2 (by omega), h 3 (by omega), h 4 (by omega), h 5 (by omega), h 6 (by omega), h 7 (by omega), h 8 (by omega), h 12 (by omega), h 13 (by omega), h 14 (by omega)]
theorem wF_g {f : Nat → Nat} {cI cJ cZ : ClassId} {C : Cf} {N : Nat → Nat} {S S' : St} {Qk : Nat → Int64} {Z : St} (h : ∀ c, ¬ c ≤ 3 → S' c = S c) : wF f cI cJ cZ C N S' Qk Z = (f 0, .inr (0, [.int (S 13 0).toInt32, .int (C 10 0), .ref (f 1), .ref (f 11), .ref (f 20), .ref (f 23), .ref (f 30), .ref (f 34), .long (Z 3 0), .long (Z 3 1), .long (Z 3 2)])) :: (wG (fun i => f (1 + i)) cI cJ C S' Z ++ (wW (fun i => f (11 + i)) cI cJ cZ C N S ++ (wU (fun i => f (20 + i)) cI C N ++ (wS (fun i => f (23 + i)) cI cJ C N S ++ (wQ (fun i => f (30 + i)) cI S Qk ++ [(f 34, .inl (cJ, 8, .inr (.inl (S 12))))]))))) := by
  unfold wF wW wS wQ
  rw [h 4 (by omega), h 5 (by omega), h 6 (by omega), h 7 (by omega), h 8 (by omega), h 9 (by omega), h 10 (by omega), h 11 (by omega), h 12 (by omega), h 13 (by omega), h 14 (by omega)]
theorem warm_oth (S : St) (b : Nat) {c : Nat} (h : ¬ c ≤ 3) : warmS S b c = S c := by
  unfold warmS
  split
  · rfl
  · exact u2_c _ _ _ (by omega)
theorem flow_oth (S Z : St) (a b : Nat) (wd : Int32) {c : Nat} (h : ¬ c ≤ 3) : flowS S Z a b wd c = S c := by
  unfold flowS takeS
  rw [u2_c _ _ _ (by omega), u2_c _ _ _ (by omega), u2_c _ _ _ (by omega), u2_c _ _ _ (by omega), u2_c _ _ _ (by omega), u2_c _ _ _ (by omega)]
theorem fb_oth (S Z : St) (a b : Nat) (wd : Int32) {c : Nat} (h : ¬ c ≤ 3) : fbS S Z a b wd c = S c := by
  unfold fbS
  (repeat' split)
  · rfl
  · exact flow_oth _ _ _ _ _ h
  · exact flow_oth _ _ _ _ _ h
theorem cr_oth (C : Cf) (Z : St) (b : Nat) (S : St) {c : Nat} (h : ¬ c ≤ 3) : crS C Z b S c = S c := by
  have h1 : (if 12 ≤ b + 1 then S else if nbr b (b + 1) = false then S else fbS S Z b (b + 1) (C 0 b)) c = S c := by
    (repeat' split)
    · rfl
    · rfl
    · exact fb_oth _ _ _ _ _ h
  unfold crS
  split
  · exact h1
  · rw [fb_oth _ _ _ _ _ h]; exact h1
theorem crk_oth (C : Cf) (S : St) {c : Nat} (h : ¬ c ≤ 3) : crk C S c = S c := by
  unfold crk
  generalize (fun (c : Nat) (b : Nat) => if c = 0 then S 0 b else if c = 1 then deg S b else S 2 b) = Z
  have key : ∀ n, itr (crS C Z) S n c = S c := by
    intro n
    induction n with
    | zero => rfl
    | succ n ih => exact (cr_oth C Z n _ h).trans ih
  exact key 12
theorem hV_X5_find : yX5_find.cls = RX5 ∧ yX5_find.cls ≠ "java/lang/invoke/MethodHandle" ∧ yX5_find.cls ≠ "java/lang/invoke/VarHandle" ∧ (parseMethodDescriptor yX5_find.desc).map (fun d => d.parameters.length) = some 3 := by decide +kernel
abbrev rm_X5_find : Room := { frames := 0, cells := 0, slots := 0, locals := 0 }
set_option maxRecDepth 100000 in
set_option maxHeartbeats 4000000 in
theorem m_X5_find (l : Launch) (D : va_G) (cI cJ cZ : ClassId) (g : Nat → Nat) (C : Cf) (N : Nat → Nat) (S : St) (w : Nat) (x : Int64) (hw : w < 10) (hf : -1 ≤ (S 8 w).toInt ∧ (S 8 w).toInt ≤ 1000) : g_Ct l D cI cJ cZ yX5_find cX5_find 5 none rm_X5_find 0 0 [.ref (g 0), .int (nI w), .long x, .int ((S 13 0).toInt32)] (wW g cI cJ cZ C N S) (g_eq none (wW g cI cJ cZ C N (findS S w x))) := by
  refine g_body RX5 [(0, .ref (g 0)), (1, .int (nI w)), (2, .long x), (4, .int ((S 13 0).toInt32))] kH_X5 rfl (Nat.le_of_ble_eq_true rfl) rfl ?_
  intro p e s m args below meth c A X hr hlk hmn Q hQ
  refine g_aload_n X 0 dX5_find_0 rfl rfl ?_
  refine g_get X (C := RX5) (T := TX5) (N := 9) (v := .ref (g 7)) inlX5 0 rfl rfl 7 (Nat.le_of_ble_eq_true rfl) kF_X5_36 rfl dX5_find_1 ?_
  refine g_iload_n X 1 dX5_find_4 rfl rfl ?_
  refine g_dup2_11 X dX5_find_5 rfl rfl ?_
  refine g_lald X 7 rfl (w) rfl (by omega) (Nat.le_of_ble_eq_true rfl) (v := S 7 w) rfl dX5_find_6 ?_
  refine g_lload_n X 2 dX5_find_7 rfl rfl ?_
  refine g_ladd X (v := (S 7 w) + x) dX5_find_8 rfl ?_
  obtain ⟨S1, eS1⟩ : ∃ z : St, z = u2 S 7 w ((S 7 w) + x) := ⟨_, rfl⟩
  refine g_last X (ws' := wW g cI cJ cZ C N S1) 7 rfl (w) rfl (by omega) (Nat.le_of_ble_eq_true rfl) dX5_find_9 (by rw [eS1]; first | done | (rfl)) ?_
  refine g_lload_n X 2 dX5_find_10 rfl rfl ?_
  refine g_lconst X (v := 0) dX5_find_11 (by decide +kernel) ?_
  have J6 : ∀ (S5 : St), S5 = (if x ≤ (0 : Int64) then S1 else if ¬ ((S1 8 w).toInt32) = (-1 : Int32) then S1 else (u2 S1 8 w (S 13 0))) → g_G p l e rm_X5_find s m args below meth c D A 5 0 0 Q (wW g cI cJ cZ C N S5) [] 34 [] := by
    intro S5 eS5
    refine g_vret X hr hlk hQ dX5_find_34 ?_
    show g_eq _ _ _ _
    try rw [eS5]
    try rw [eS1]
    refine ⟨rfl, congrArg (wW g cI cJ cZ C N) ?_⟩
    unfold findS
    by_cases hx : x ≤ 0
    · rw [if_pos hx, if_pos hx]
    rw [if_neg hx, if_neg hx]
    by_cases h8 : S 8 w = -1
    · have h9 := (f_m1 hf).mpr h8
      exact (if_neg (fun z => z h9)).trans (if_neg (fun z => z h8)).symm
    · have h9 : ¬ (S 8 w).toInt32 = -1 := fun z => h8 ((f_m1 hf).mp z)
      exact (if_pos h9).trans (if_pos h8).symm
  refine g_lj_le X (tgt := 34) (pc1 := 13) dX5_find_12 rfl dX5_find_13 (by decide) (fun h2 => ?_) (fun h2 => ?_)
  · --
    refine g_lv _ [] rfl ?_
    exact J6 _ (by rw [if_pos (c := x ≤ (0 : Int64)) h2])
  · --
    refine g_aload_n X 0 dX5_find_16 rfl rfl ?_
    refine g_get X (C := RX5) (T := TX5) (N := 9) (v := .ref (g 8)) inlX5 0 rfl rfl 8 (Nat.le_of_ble_eq_true rfl) kF_X5_39 rfl dX5_find_17 ?_
    refine g_iload_n X 1 dX5_find_20 rfl rfl ?_
    refine g_iald X 8 rfl (w) rfl (by omega) (Nat.le_of_ble_eq_true rfl) (v := (S1 8 w).toInt32) rfl dX5_find_21 ?_
    refine g_iconst X (v := (-1 : Int32)) dX5_find_22 (by decide +kernel) ?_
    refine g_icmp_ne X (tgt := 34) dX5_find_23 (by decide) (fun h3 => ?_) (fun h3 => ?_)
    · --
      refine g_lv _ [] rfl ?_
      exact J6 _ (by rw [if_neg (c := x ≤ (0 : Int64)) h2, if_pos (c := ¬ ((S1 8 w).toInt32) = (-1 : Int32)) h3])
    · --
      refine g_aload_n X 0 dX5_find_26 rfl rfl ?_
      refine g_get X (C := RX5) (T := TX5) (N := 9) (v := .ref (g 8)) inlX5 0 rfl rfl 8 (Nat.le_of_ble_eq_true rfl) kF_X5_39 rfl dX5_find_27 ?_
      refine g_iload_n X 1 dX5_find_30 rfl rfl ?_
      refine g_iload X 3 dX5_find_31 rfl ?_
      obtain ⟨S4, eS4⟩ : ∃ z : St, z = u2 S1 8 w (S 13 0) := ⟨_, rfl⟩
      refine g_iast X (ws' := wW g cI cJ cZ C N S4) 8 rfl (w) rfl (by omega) (Nat.le_of_ble_eq_true rfl) dX5_find_33 (by rw [eS4]; first | done | (rw [i32_updV _ _ (v := (S 13 0)) rfl]; rfl)) ?_
      refine g_lv _ [] rfl ?_
      exact J6 _ (by (try rw [eS4]); rw [if_neg (c := x ≤ (0 : Int64)) h2, if_neg (c := ¬ ((S1 8 w).toInt32) = (-1 : Int32)) (fun z => z h3)])
theorem hV_X5_allWeight : yX5_allWeight.cls = RX5 ∧ yX5_allWeight.cls ≠ "java/lang/invoke/MethodHandle" ∧ yX5_allWeight.cls ≠ "java/lang/invoke/VarHandle" ∧ (parseMethodDescriptor yX5_allWeight.desc).map (fun d => d.parameters.length) = some 0 := by decide +kernel
abbrev rm_X5_allWeight : Room := { frames := 1, cells := 0, slots := 0, locals := 21 }
set_option maxRecDepth 100000 in
set_option maxHeartbeats 4000000 in
theorem m_X5_allWeight (l : Launch) (D : va_G) (cI cJ cZ : ClassId) (g : Nat → Nat) (C : Cf) (N : Nat → Nat) (S : St) (hn : N 0 ≤ 10) : g_Ct l D cI cJ cZ yX5_allWeight cX5_allWeight 4 (some .long) rm_X5_allWeight 0 0 [.ref (g 0)] (wW g cI cJ cZ C N S) (g_eq (some (.long (wgt C S (N 0)))) (wW g cI cJ cZ C N S)) := by
  refine g_body RX5 [(0, .ref (g 0))] kH_X5 rfl (Nat.le_of_ble_eq_true rfl) rfl ?_
  intro p e s m args below meth c A X hr hlk hmn Q hQ
  refine g_lconst X (v := 0) dX5_allWeight_0 (by decide +kernel) ?_
  refine g_lstore_n X [(1, .long (0 : Int64)), (0, .ref (g 0))] dX5_allWeight_1 rfl (Nat.le_of_ble_eq_true rfl) rfl ?_
  refine g_iconst X (v := nI 0) dX5_allWeight_2 (by decide +kernel) ?_
  refine g_istore_n X [(3, .int (nI 0)), (1, .long (0 : Int64)), (0, .ref (g 0))] dX5_allWeight_3 rfl (Nat.le_of_ble_eq_true rfl) rfl ?_
  have L1 : ∀ (n3 i2 : Nat) (a4 : Int64), i2 + n3 = (N 0) → a4 = wgt C S i2 → g_G p l e rm_X5_allWeight s m args below meth c D A 4 0 0 Q (wW g cI cJ cZ C N S) [(0, .ref (g 0)), (1, .long a4), (3, .int (nI i2))] 4 [] := by
    intro n3
    induction n3 with
    | zero =>
      intro i2 a4 hi5 ea4
      obtain rfl : i2 = (N 0) := by omega
      refine g_iload_n X 2 dX5_allWeight_4 rfl rfl ?_
      refine g_aload_n X 0 dX5_allWeight_5 rfl rfl ?_
      refine g_get X (C := RX5) (T := TX5) (N := 9) (v := .int (nI (N 0))) inlX5 0 rfl rfl 0 (Nat.le_of_ble_eq_true rfl) kF_X5_9 rfl dX5_allWeight_6 ?_
      refine g_icN_ge X (a := (N 0)) (b := N 0) (tgt := 36) (by omega) (by omega) dX5_allWeight_9 (by decide) (fun h6 => ?_) (fun h6 => absurd h6 (by omega))
      refine g_lload_n X 1 dX5_allWeight_36 rfl rfl ?_
      refine g_lret X hr hlk hQ dX5_allWeight_37 ?_
      show g_eq _ _ _ _
      try rw [ea4]
      exact ⟨rfl, rfl⟩
    | succ n3 ihL1 =>
      intro i2 a4 hi5 ea4
      have hlti2 : i2 < (N 0) := by omega
      refine g_iload_n X 2 dX5_allWeight_4 rfl rfl ?_
      refine g_aload_n X 0 dX5_allWeight_5 rfl rfl ?_
      refine g_get X (C := RX5) (T := TX5) (N := 9) (v := .int (nI (N 0))) inlX5 0 rfl rfl 0 (Nat.le_of_ble_eq_true rfl) kF_X5_9 rfl dX5_allWeight_6 ?_
      refine g_icN_ge X (a := i2) (b := N 0) (tgt := 36) (by omega) (by omega) dX5_allWeight_9 (by decide) (fun h7 => absurd h7 (by omega)) (fun h7 => ?_)
      refine g_aload_n X 0 dX5_allWeight_12 rfl rfl ?_
      refine g_iload_n X 2 dX5_allWeight_13 rfl rfl ?_
      refine g_callV X (As := [.int (nI i2)]) (rest := []) (m_X5_isReturning l D cI cJ cZ g C N S i2 (by omega)) kM_X5_52 kI_yX5_isReturning kS_yX5_isReturning kZ_RX5 kC_yX5_isReturning hV_X5_isReturning rfl rfl rfl 0 rfl (ci := 5) rfl ⟨Nat.le_of_ble_eq_true rfl, Nat.le_of_ble_eq_true rfl⟩ ⟨Nat.le_of_ble_eq_true rfl, Nat.le_of_ble_eq_true rfl⟩ (Nat.le_of_ble_eq_true rfl) dX5_allWeight_14 rfl [0, 1, 2, 3, 4, 5, 6, 7, 8] rfl rfl (g_kk1 (w2 := wW g cI cJ cZ C N S) ⟨[0, 1, 2, 3, 4, 5, 6, 7, 8], [], [0, 1, 2, 3, 4, 5, 6, 7, 8], [], rfl, rfl, rfl, rfl, by decide, rfl, rfl⟩ ?_)
      have J10 : ∀ (v9 : Int64), v9 = (if (ret_ C S i2) = false then a4 else a4 + ((C 4 i2).toInt64)) → g_G p l e rm_X5_allWeight s m args below meth c D A 4 0 0 Q (wW g cI cJ cZ C N S) [(0, .ref (g 0)), (1, .long v9), (3, .int (nI i2))] 30 [] := by
        intro v9 ev9
        refine g_iinc X [(3, .int (nI (i2 + 1))), (0, .ref (g 0)), (1, .long v9)] (q := 2) (v := nI (i2 + 1)) dX5_allWeight_30 rfl ((congrArg (fun z => nI (i2) + z) (show Int32.ofInt 1 = nI 1 by decide +kernel)).trans ((nI_add _ _).trans (congrArg nI (by omega)))) (Nat.le_of_ble_eq_true rfl) rfl ?_
        refine g_goto X (tgt := 4) dX5_allWeight_33 (by decide) ?_
        refine g_lv _ [1, 2, 0] rfl ?_
        exact ihL1 (i2 + 1) _ (by omega) (by (try rw [ev9]); (try rw [ea4]); first | done | (show _ = (if _ then _ else _); rfl))
      refine g_bI_eq X (tgt := 30) dX5_allWeight_17 (by decide) (fun h8 => ?_) (fun h8 => ?_)
      · --
        exact J10 _ (by rw [if_pos (c := (ret_ C S i2) = false) h8])
      · --
        refine g_lload_n X 1 dX5_allWeight_20 rfl rfl ?_
        refine g_aload_n X 0 dX5_allWeight_21 rfl rfl ?_
        refine g_get X (C := RX5) (T := TX5) (N := 9) (v := .ref (g 3)) inlX5 0 rfl rfl 3 (Nat.le_of_ble_eq_true rfl) kF_X5_23 rfl dX5_allWeight_22 ?_
        refine g_iload_n X 2 dX5_allWeight_25 rfl rfl ?_
        refine g_iald X 3 rfl (i2) rfl (by omega) (Nat.le_of_ble_eq_true rfl) (v := C 4 i2) rfl dX5_allWeight_26 ?_
        refine g_i2l X (v := (C 4 i2).toInt64) dX5_allWeight_27 rfl ?_
        refine g_ladd X (v := a4 + ((C 4 i2).toInt64)) dX5_allWeight_28 rfl ?_
        refine g_lstore_n X [(1, .long (a4 + ((C 4 i2).toInt64))), (0, .ref (g 0)), (3, .int (nI i2))] dX5_allWeight_29 rfl (Nat.le_of_ble_eq_true rfl) rfl ?_
        refine g_lv _ [1, 0, 2] rfl ?_
        exact J10 _ (by rw [if_neg (c := (ret_ C S i2) = false) (by rw [h8]; decide)])
  refine g_lv _ [2, 1, 0] rfl ?_
  exact L1 ((N 0)) 0 _ (by omega) (by first | done | rfl)
theorem hV_X5_tell : yX5_tell.cls = RX5 ∧ yX5_tell.cls ≠ "java/lang/invoke/MethodHandle" ∧ yX5_tell.cls ≠ "java/lang/invoke/VarHandle" ∧ (parseMethodDescriptor yX5_tell.desc).map (fun d => d.parameters.length) = some 2 := by decide +kernel
abbrev rm_X5_tell : Room := { frames := 0, cells := 0, slots := 0, locals := 0 }
set_option maxRecDepth 100000 in
set_option maxHeartbeats 4000000 in
theorem m_X5_tell (l : Launch) (D : va_G) (cI cJ cZ : ClassId) (g : Nat → Nat) (C : Cf) (N : Nat → Nat) (S : St) (w k : Nat) (hw : w < 10) (hk : k < 7) : g_Ct l D cI cJ cZ yX5_tell cX5_tell 3 (some .long) rm_X5_tell 0 0 [.ref (g 0), .int (nI w), .int (nI k)] (wW g cI cJ cZ C N S) (g_eq (some (.long (tellW C S w k))) (wW g cI cJ cZ C N S)) := by
  refine g_body RX5 [(0, .ref (g 0)), (1, .int (nI w)), (2, .int (nI k))] kH_X5 rfl (Nat.le_of_ble_eq_true rfl) rfl ?_
  intro p e s m args below meth c A X hr hlk hmn Q hQ
  refine g_iload_n X 2 dX5_tell_0 rfl rfl ?_
  rcases (show k = 0 ∨ k = 1 ∨ k = 2 ∨ k = 3 ∨ k = 4 ∨ k = 5 ∨ k = 6 by omega) with rfl | rfl | rfl | rfl | rfl | rfl | rfl
  · --
    refine g_tsw X (tgt := 40) dX5_tell_1 (by decide +kernel) rfl (by decide) ?_
    refine g_aload_n X 0 dX5_tell_40 rfl rfl ?_
    refine g_get X (C := RX5) (T := TX5) (N := 9) (v := .ref (g 1)) inlX5 0 rfl rfl 1 (Nat.le_of_ble_eq_true rfl) kF_X5_15 rfl dX5_tell_41 ?_
    refine g_iload_n X 1 dX5_tell_44 rfl rfl ?_
    refine g_iald X 1 rfl (w) rfl (by omega) (Nat.le_of_ble_eq_true rfl) (v := C 2 w) rfl dX5_tell_45 ?_
    refine g_i2l X (v := (C 2 w).toInt64) dX5_tell_46 rfl ?_
    refine g_lret X hr hlk hQ dX5_tell_47 ?_
    show g_eq _ _ _ _
    exact ⟨rfl, rfl⟩
  · --
    refine g_tsw X (tgt := 48) dX5_tell_1 (by decide +kernel) rfl (by decide) ?_
    refine g_aload_n X 0 dX5_tell_48 rfl rfl ?_
    refine g_get X (C := RX5) (T := TX5) (N := 9) (v := .ref (g 3)) inlX5 0 rfl rfl 3 (Nat.le_of_ble_eq_true rfl) kF_X5_23 rfl dX5_tell_49 ?_
    refine g_iload_n X 1 dX5_tell_52 rfl rfl ?_
    refine g_iald X 3 rfl (w) rfl (by omega) (Nat.le_of_ble_eq_true rfl) (v := C 4 w) rfl dX5_tell_53 ?_
    refine g_i2l X (v := (C 4 w).toInt64) dX5_tell_54 rfl ?_
    refine g_lret X hr hlk hQ dX5_tell_55 ?_
    show g_eq _ _ _ _
    exact ⟨rfl, rfl⟩
  · --
    refine g_tsw X (tgt := 56) dX5_tell_1 (by decide +kernel) rfl (by decide) ?_
    refine g_aload_n X 0 dX5_tell_56 rfl rfl ?_
    refine g_get X (C := RX5) (T := TX5) (N := 9) (v := .ref (g 4)) inlX5 0 rfl rfl 4 (Nat.le_of_ble_eq_true rfl) kF_X5_26 rfl dX5_tell_57 ?_
    refine g_iload_n X 1 dX5_tell_60 rfl rfl ?_
    refine g_iald X 4 rfl (w) rfl (by omega) (Nat.le_of_ble_eq_true rfl) (v := (S 4 w).toInt32) rfl dX5_tell_61 ?_
    refine g_i2l X (v := ((S 4 w).toInt32).toInt64) dX5_tell_62 rfl ?_
    refine g_lret X hr hlk hQ dX5_tell_63 ?_
    show g_eq _ _ _ _
    exact ⟨rfl, rfl⟩
  · --
    refine g_tsw X (tgt := 64) dX5_tell_1 (by decide +kernel) rfl (by decide) ?_
    refine g_aload_n X 0 dX5_tell_64 rfl rfl ?_
    refine g_get X (C := RX5) (T := TX5) (N := 9) (v := .ref (g 5)) inlX5 0 rfl rfl 5 (Nat.le_of_ble_eq_true rfl) kF_X5_29 rfl dX5_tell_65 ?_
    refine g_iload_n X 1 dX5_tell_68 rfl rfl ?_
    refine g_lald X 5 rfl (w) rfl (by omega) (Nat.le_of_ble_eq_true rfl) (v := S 5 w) rfl dX5_tell_69 ?_
    refine g_lret X hr hlk hQ dX5_tell_70 ?_
    show g_eq _ _ _ _
    exact ⟨rfl, rfl⟩
  · --
    refine g_tsw X (tgt := 71) dX5_tell_1 (by decide +kernel) rfl (by decide) ?_
    refine g_aload_n X 0 dX5_tell_71 rfl rfl ?_
    refine g_get X (C := RX5) (T := TX5) (N := 9) (v := .ref (g 6)) inlX5 0 rfl rfl 6 (Nat.le_of_ble_eq_true rfl) kF_X5_33 rfl dX5_tell_72 ?_
    refine g_iload_n X 1 dX5_tell_75 rfl rfl ?_
    refine g_zald X 6 rfl (w) rfl (by omega) (Nat.le_of_ble_eq_true rfl) (v := (S 6 w).toInt32) rfl dX5_tell_76 ?_
    have J3 : ∀ (v2 : Int64), v2 = (if ((S 6 w).toInt32) = 0 then (0 : Int64) else (1 : Int64)) → g_G p l e rm_X5_tell s m args below meth c D A 3 0 0 Q (wW g cI cJ cZ C N S) [] 85 [.long v2] := by
      intro v2 ev2
      refine g_lret X hr hlk hQ dX5_tell_85 ?_
      show g_eq _ _ _ _
      try rw [ev2]
      exact ⟨rfl, rfl⟩
    refine g_if_eq X (tgt := 84) dX5_tell_77 (by decide) (fun h1 => ?_) (fun h1 => ?_)
    · --
      refine g_lconst X (v := 0) dX5_tell_84 (by decide +kernel) ?_
      refine g_lv _ [] rfl ?_
      exact J3 _ (by rw [if_pos (c := ((S 6 w).toInt32) = 0) h1])
    · --
      refine g_lconst X (v := 1) dX5_tell_80 (by decide +kernel) ?_
      refine g_goto X (tgt := 85) dX5_tell_81 (by decide) ?_
      refine g_lv _ [] rfl ?_
      exact J3 _ (by rw [if_neg (c := ((S 6 w).toInt32) = 0) h1])
  · --
    refine g_tsw X (tgt := 86) dX5_tell_1 (by decide +kernel) rfl (by decide) ?_
    refine g_aload_n X 0 dX5_tell_86 rfl rfl ?_
    refine g_get X (C := RX5) (T := TX5) (N := 9) (v := .ref (g 7)) inlX5 0 rfl rfl 7 (Nat.le_of_ble_eq_true rfl) kF_X5_36 rfl dX5_tell_87 ?_
    refine g_iload_n X 1 dX5_tell_90 rfl rfl ?_
    refine g_lald X 7 rfl (w) rfl (by omega) (Nat.le_of_ble_eq_true rfl) (v := S 7 w) rfl dX5_tell_91 ?_
    refine g_lret X hr hlk hQ dX5_tell_92 ?_
    show g_eq _ _ _ _
    exact ⟨rfl, rfl⟩
  · --
    refine g_tswO X (tgt := 93) dX5_tell_1 (by decide +kernel) (by decide) ?_
    refine g_aload_n X 0 dX5_tell_93 rfl rfl ?_
    refine g_get X (C := RX5) (T := TX5) (N := 9) (v := .ref (g 8)) inlX5 0 rfl rfl 8 (Nat.le_of_ble_eq_true rfl) kF_X5_39 rfl dX5_tell_94 ?_
    refine g_iload_n X 1 dX5_tell_97 rfl rfl ?_
    refine g_iald X 8 rfl (w) rfl (by omega) (Nat.le_of_ble_eq_true rfl) (v := (S 8 w).toInt32) rfl dX5_tell_98 ?_
    refine g_i2l X (v := ((S 8 w).toInt32).toInt64) dX5_tell_99 rfl ?_
    refine g_lret X hr hlk hQ dX5_tell_100 ?_
    show g_eq _ _ _ _
    exact ⟨rfl, rfl⟩
theorem hV_X5_drill : yX5_drill.cls = RX5 ∧ yX5_drill.cls ≠ "java/lang/invoke/MethodHandle" ∧ yX5_drill.cls ≠ "java/lang/invoke/VarHandle" ∧ (parseMethodDescriptor yX5_drill.desc).map (fun d => d.parameters.length) = some 2 := by decide +kernel
abbrev rm_X5_drill : Room := { frames := 0, cells := 0, slots := 0, locals := 0 }
set_option maxRecDepth 100000 in
set_option maxHeartbeats 4000000 in
theorem m_X5_drill (l : Launch) (D : va_G) (cI cJ cZ : ClassId) (g : Nat → Nat) (C : Cf) (N : Nat → Nat) (S : St) (b : Nat) (r : Bool) (hn : N 0 < 10) (hb : b < 12) : g_Ct l D cI cJ cZ yX5_drill cX5_drill 4 (some .int) rm_X5_drill 0 0 [.ref (g 0), .int (nI b), .int (bI r)] (wW g cI cJ cZ C N S) (g_eq (some (.int (nI (N 0)))) (wW g cI cJ cZ (c2 (c2 C 2 (N 0) (nI b)) 3 (N 0) (bI r)) (n2 N 0 (N 0 + 1)) (u2 S 8 (N 0) (-1)))) := by
  refine g_body RX5 [(0, .ref (g 0)), (1, .int (nI b)), (2, .int (bI r))] kH_X5 rfl (Nat.le_of_ble_eq_true rfl) rfl ?_
  intro p e s m args below meth c A X hr hlk hmn Q hQ
  refine g_aload_n X 0 dX5_drill_0 rfl rfl ?_
  refine g_get X (C := RX5) (T := TX5) (N := 9) (v := .int (nI (N 0))) inlX5 0 rfl rfl 0 (Nat.le_of_ble_eq_true rfl) kF_X5_9 rfl dX5_drill_1 ?_
  refine g_istore_n X [(3, .int (nI (N 0))), (0, .ref (g 0)), (1, .int (nI b)), (2, .int (bI r))] dX5_drill_4 rfl (Nat.le_of_ble_eq_true rfl) rfl ?_
  refine g_aload_n X 1 dX5_drill_5 rfl rfl ?_
  refine g_get X (C := RX5) (T := TX5) (N := 9) (v := .ref (g 1)) inlX5 0 rfl rfl 1 (Nat.le_of_ble_eq_true rfl) kF_X5_15 rfl dX5_drill_6 ?_
  refine g_iload_n X 0 dX5_drill_9 rfl rfl ?_
  refine g_iload_n X 2 dX5_drill_10 rfl rfl ?_
  obtain ⟨C1, eC1⟩ : ∃ z : Cf, z = c2 C 2 (N 0) (nI b) := ⟨_, rfl⟩
  refine g_iast X (ws' := wW g cI cJ cZ C1 N S) 1 rfl (N 0) rfl (by omega) (Nat.le_of_ble_eq_true rfl) dX5_drill_11 (by rw [eC1]; first | done | (rfl)) ?_
  refine g_aload_n X 1 dX5_drill_12 rfl rfl ?_
  refine g_get X (C := RX5) (T := TX5) (N := 9) (v := .ref (g 2)) inlX5 0 rfl rfl 2 (Nat.le_of_ble_eq_true rfl) kF_X5_19 rfl dX5_drill_13 ?_
  refine g_iload_n X 0 dX5_drill_16 rfl rfl ?_
  refine g_iload_n X 3 dX5_drill_17 rfl rfl ?_
  obtain ⟨C2, eC2⟩ : ∃ z : Cf, z = c2 C1 3 (N 0) (bI r) := ⟨_, rfl⟩
  refine g_zast X (ws' := wW g cI cJ cZ C2 N S) 2 rfl (N 0) rfl (by omega) (Nat.le_of_ble_eq_true rfl) dX5_drill_18 (by rw [eC2]; first | done | (rw [bI_vp _]; rfl)) ?_
  refine g_aload_n X 1 dX5_drill_19 rfl rfl ?_
  refine g_get X (C := RX5) (T := TX5) (N := 9) (v := .ref (g 8)) inlX5 0 rfl rfl 8 (Nat.le_of_ble_eq_true rfl) kF_X5_39 rfl dX5_drill_20 ?_
  refine g_iload_n X 0 dX5_drill_23 rfl rfl ?_
  refine g_iconst X (v := (-1 : Int32)) dX5_drill_24 (by decide +kernel) ?_
  obtain ⟨S3, eS3⟩ : ∃ z : St, z = u2 S 8 (N 0) (-1 : Int64) := ⟨_, rfl⟩
  refine g_iast X (ws' := wW g cI cJ cZ C2 N S3) 8 rfl (N 0) rfl (by omega) (Nat.le_of_ble_eq_true rfl) dX5_drill_25 (by rw [eS3]; first | done | (rw [i32_updV _ _ (v := (-1 : Int64)) (by decide +kernel)]; rfl)) ?_
  refine g_aload_n X 1 dX5_drill_26 rfl rfl ?_
  refine g_dup X dX5_drill_27 rfl ?_
  refine g_get X (C := RX5) (T := TX5) (N := 9) (v := .int (nI (N 0))) inlX5 0 rfl rfl 0 (Nat.le_of_ble_eq_true rfl) kF_X5_9 rfl dX5_drill_28 ?_
  refine g_iconst X (v := nI 1) dX5_drill_31 (by decide +kernel) ?_
  refine g_iadd X (v := nI (N 0 + 1)) dX5_drill_32 ((nI_add _ _).trans (congrArg nI (by omega))) ?_
  obtain ⟨N4, eN4⟩ : ∃ z : Nat → Nat, z = n2 N 0 (N 0 + 1) := ⟨_, rfl⟩
  refine g_put X (C := RX5) (T := TX5) (N := 9) (ws' := wW g cI cJ cZ C2 N4 S3) inlX5 tyX5 tyX5_ok nmX5 0 rfl rfl 0 (Nat.le_of_ble_eq_true rfl) kF_X5_9 rfl rfl rfl (Nat.le_of_ble_eq_true rfl) dX5_drill_33 (by rw [eN4]; first | done | (rfl)) ?_
  refine g_iload_n X 0 dX5_drill_36 rfl rfl ?_
  refine g_iret X hr hlk hQ dX5_drill_37 ?_
  show g_eq _ _ _ _
  try rw [eN4]
  try rw [eS3]
  try rw [eC2]
  try rw [eC1]
  exact ⟨rfl, rfl⟩
/-! uses -/
theorem hV_X4_add : yX4_add.cls = RX4 ∧ yX4_add.cls ≠ "java/lang/invoke/MethodHandle" ∧ yX4_add.cls ≠ "java/lang/invoke/VarHandle" ∧ (parseMethodDescriptor yX4_add.desc).map (fun d => d.parameters.length) = some 2 := by decide +kernel
abbrev rm_X4_add : Room := { frames := 0, cells := 0, slots := 0, locals := 0 }
set_option maxRecDepth 100000 in
set_option maxHeartbeats 4000000 in
theorem m_X4_add (l : Launch) (D : va_G) (cI cJ cZ : ClassId) (g : Nat → Nat) (C : Cf) (N : Nat → Nat) (a b : Int32) (hn : N 1 < 6) : g_Ct l D cI cJ cZ yX4_add cX4_add 4 (some .int) rm_X4_add 0 0 [.ref (g 0), .int a, .int b] (wU g cI C N) (g_eq (some (.int (nI (N 1)))) (wU g cI (c2 (c2 C 5 (N 1) a) 6 (N 1) b) (n2 N 1 (N 1 + 1)))) := by
  refine g_body RX4 [(0, .ref (g 0)), (1, .int a), (2, .int b)] kH_X4 rfl (Nat.le_of_ble_eq_true rfl) rfl ?_
  intro p e s m args below meth c A X hr hlk hmn Q hQ
  refine g_aload_n X 0 dX4_add_0 rfl rfl ?_
  refine g_get X (C := RX4) (T := TX4) (N := 3) (v := .int (nI (N 1))) inlX4 0 rfl rfl 0 (Nat.le_of_ble_eq_true rfl) kF_X4_9 rfl dX4_add_1 ?_
  refine g_istore_n X [(3, .int (nI (N 1))), (0, .ref (g 0)), (1, .int a), (2, .int b)] dX4_add_4 rfl (Nat.le_of_ble_eq_true rfl) rfl ?_
  refine g_aload_n X 1 dX4_add_5 rfl rfl ?_
  refine g_get X (C := RX4) (T := TX4) (N := 3) (v := .ref (g 1)) inlX4 0 rfl rfl 1 (Nat.le_of_ble_eq_true rfl) kF_X4_15 rfl dX4_add_6 ?_
  refine g_iload_n X 0 dX4_add_9 rfl rfl ?_
  refine g_iload_n X 2 dX4_add_10 rfl rfl ?_
  obtain ⟨C1, eC1⟩ : ∃ z : Cf, z = c2 C 5 (N 1) a := ⟨_, rfl⟩
  refine g_iast X (ws' := wU g cI C1 N) 1 rfl (N 1) rfl (by omega) (Nat.le_of_ble_eq_true rfl) dX4_add_11 (by rw [eC1]; first | done | (rfl)) ?_
  refine g_aload_n X 1 dX4_add_12 rfl rfl ?_
  refine g_get X (C := RX4) (T := TX4) (N := 3) (v := .ref (g 2)) inlX4 0 rfl rfl 2 (Nat.le_of_ble_eq_true rfl) kF_X4_19 rfl dX4_add_13 ?_
  refine g_iload_n X 0 dX4_add_16 rfl rfl ?_
  refine g_iload_n X 3 dX4_add_17 rfl rfl ?_
  obtain ⟨C2, eC2⟩ : ∃ z : Cf, z = c2 C1 6 (N 1) b := ⟨_, rfl⟩
  refine g_iast X (ws' := wU g cI C2 N) 2 rfl (N 1) rfl (by omega) (Nat.le_of_ble_eq_true rfl) dX4_add_18 (by rw [eC2]; first | done | (rfl)) ?_
  refine g_aload_n X 1 dX4_add_19 rfl rfl ?_
  refine g_dup X dX4_add_20 rfl ?_
  refine g_get X (C := RX4) (T := TX4) (N := 3) (v := .int (nI (N 1))) inlX4 0 rfl rfl 0 (Nat.le_of_ble_eq_true rfl) kF_X4_9 rfl dX4_add_21 ?_
  refine g_iconst X (v := nI 1) dX4_add_24 (by decide +kernel) ?_
  refine g_iadd X (v := nI (N 1 + 1)) dX4_add_25 ((nI_add _ _).trans (congrArg nI (by omega))) ?_
  obtain ⟨N3, eN3⟩ : ∃ z : Nat → Nat, z = n2 N 1 (N 1 + 1) := ⟨_, rfl⟩
  refine g_put X (C := RX4) (T := TX4) (N := 3) (ws' := wU g cI C2 N3) inlX4 tyX4 tyX4_ok nmX4 0 rfl rfl 0 (Nat.le_of_ble_eq_true rfl) kF_X4_9 rfl rfl rfl (Nat.le_of_ble_eq_true rfl) dX4_add_26 (by rw [eN3]; first | done | (rfl)) ?_
  refine g_iload_n X 0 dX4_add_29 rfl rfl ?_
  refine g_iret X hr hlk hQ dX4_add_30 ?_
  show g_eq _ _ _ _
  try rw [eN3]
  try rw [eC2]
  try rw [eC1]
  exact ⟨rfl, rfl⟩
/-! springs -/
def spN (C : Cf) (k : Nat) : Nat := (C 7 k).toNatClampNeg
def nearS (C : Cf) (k b : Nat) : Bool := if spN C k = b then true else if nbr (spN C k) b = false then false else true
def chgS (C : Cf) (b w : Nat) (x : Int64) (k : Nat) (S : St) : St := if nearS C k b = false then S else u2 S 11 (10 * k + w) (S 11 (10 * k + w) + x)
def clrS (k : Nat) (S : St) (n : Nat) : St := itr (fun w S => u2 S 11 (10 * k + w) 0) S n
def noteS (S : St) (k : Nat) (x : Int64) : St := if x ≤ 0 then u2 (u2 S 9 k x) 10 k (S 10 k + 1) else clrS k (u2 (u2 S 9 k x) 10 k 0) 10
def blm (S : St) (k n : Nat) : Int32 × Int64 := itr (fun w p => if S 11 (10 * k + w) ≤ p.2 then p else (nI w, S 11 (10 * k + w))) (-1, 0) n
theorem blm_s (S : St) (k i : Nat) : blm S k (i + 1) = if S 11 (10 * k + i) ≤ (blm S k i).2 then blm S k i else (nI i, S 11 (10 * k + i)) := rfl
def tellS (C : Cf) (S : St) (k q : Nat) : Int64 := if q = 0 then (C 7 k).toInt64 else if q = 1 then S 9 k else if q = 2 then (C 9 k).toInt64 else if q = 3 then (S 10 k).toInt32.toInt64 else (blm S k 10).1.toInt64

theorem hV_X3_isNear : yX3_isNear.cls = RX3 ∧ yX3_isNear.cls ≠ "java/lang/invoke/MethodHandle" ∧ yX3_isNear.cls ≠ "java/lang/invoke/VarHandle" ∧ (parseMethodDescriptor yX3_isNear.desc).map (fun d => d.parameters.length) = some 2 := by decide +kernel
abbrev rm_X3_isNear : Room := { frames := 1, cells := 0, slots := 0, locals := 22 }
set_option maxRecDepth 100000 in
set_option maxHeartbeats 4000000 in
theorem m_X3_isNear (l : Launch) (D : va_G) (cI cJ cZ : ClassId) (g : Nat → Nat) (C : Cf) (N : Nat → Nat) (S : St) (k b : Nat) (hk : k < 4) (hsp : C 7 k = nI (spN C k) ∧ spN C k < 12) (hb : b < 12) : g_Ct l D cI cJ cZ yX3_isNear cX3_isNear 3 (some .boolean) rm_X3_isNear 0 0 [.ref (g 0), .int (nI k), .int (nI b)] (wS g cI cJ C N S) (g_eq (some (.int (bI (nearS C k b)))) (wS g cI cJ C N S)) := by
  refine g_body RX3 [(0, .ref (g 0)), (1, .int (nI k)), (2, .int (nI b))] kH_X3 rfl (Nat.le_of_ble_eq_true rfl) rfl ?_
  intro p e s m args below meth c A X hr hlk hmn Q hQ
  have hsp2 := hsp.2
  refine g_aload_n X 0 dX3_isNear_0 rfl rfl ?_
  refine g_get X (C := RX3) (T := TX3) (N := 7) (v := .ref (g 1)) inlX3 0 rfl rfl 1 (Nat.le_of_ble_eq_true rfl) kF_X3_15 rfl dX3_isNear_1 ?_
  refine g_iload_n X 1 dX3_isNear_4 rfl rfl ?_
  refine g_iald X 1 rfl (k) rfl (by omega) (Nat.le_of_ble_eq_true rfl) (v := nI (spN C k)) hsp.1 dX3_isNear_5 ?_
  refine g_iload_n X 2 dX3_isNear_6 rfl rfl ?_
  have J4 : ∀ (v3 : Bool), v3 = (if spN C k = b then true else if (nbr (spN C k) b) = false then false else true) → g_G p l e rm_X3_isNear s m args below meth c D A 3 0 0 Q (wS g cI cJ C N S) [] 28 [.int (bI v3)] := by
    intro v3 ev3
    refine g_zret X hr hlk hQ (bI_nar _) dX3_isNear_28 ?_
    show g_eq _ _ _ _
    try rw [ev3]
    exact ⟨rfl, rfl⟩
  refine g_icN_eq X (a := spN C k) (b := b) (tgt := 23) (by omega) (by omega) dX3_isNear_7 (by decide) (fun h1 => ?_) (fun h1 => ?_)
  · --
    refine g_iconst X (v := nI 1) dX3_isNear_23 (by decide +kernel) ?_
    refine g_goto X (tgt := 28) dX3_isNear_24 (by decide) ?_
    refine g_lv _ [] rfl ?_
    exact J4 _ (by rw [if_pos (c := spN C k = b) h1])
  · --
    refine g_aload_n X 0 dX3_isNear_10 rfl rfl ?_
    refine g_get X (C := RX3) (T := TX3) (N := 7) (v := .ref (g 1)) inlX3 0 rfl rfl 1 (Nat.le_of_ble_eq_true rfl) kF_X3_15 rfl dX3_isNear_11 ?_
    refine g_iload_n X 1 dX3_isNear_14 rfl rfl ?_
    refine g_iald X 1 rfl (k) rfl (by omega) (Nat.le_of_ble_eq_true rfl) (v := nI (spN C k)) hsp.1 dX3_isNear_15 ?_
    refine g_iload_n X 2 dX3_isNear_16 rfl rfl ?_
    refine g_callSN X (As := [.int (nI (spN C k)), .int (nI b)]) (rest := []) (m_X6_areNeighbours l D cI cJ cZ (spN C k) b (by omega) (by omega)) 5 rfl kZ_RX6 kC_yX6_areNeighbours hV_X6_areNeighbours.2 kT_yX6_areNeighbours rfl rfl rfl ⟨Nat.le_of_ble_eq_true rfl, Nat.le_of_ble_eq_true rfl⟩ ⟨Nat.le_of_ble_eq_true rfl, Nat.le_of_ble_eq_true rfl⟩ (Nat.le_of_ble_eq_true rfl) dX3_isNear_17 rfl [] rfl rfl (g_kk1 (w2 := wS g cI cJ C N S) ⟨[], [0, 1, 2, 3, 4, 5, 6], [0, 1, 2, 3, 4, 5, 6], ([0, 1, 2, 3, 4, 5, 6].filterMap fun i => (wS g cI cJ C N S)[i]?), rfl, rfl, rfl, rfl, by decide, rfl, rfl⟩ ?_)
    refine g_bI_eq X (tgt := 27) dX3_isNear_20 (by decide) (fun h2 => ?_) (fun h2 => ?_)
    · --
      refine g_iconst X (v := nI 0) dX3_isNear_27 (by decide +kernel) ?_
      refine g_lv _ [] rfl ?_
      exact J4 _ (by rw [if_neg (c := spN C k = b) h1, if_pos (c := (nbr (spN C k) b) = false) h2])
    · --
      refine g_iconst X (v := nI 1) dX3_isNear_23 (by decide +kernel) ?_
      refine g_goto X (tgt := 28) dX3_isNear_24 (by decide) ?_
      refine g_lv _ [] rfl ?_
      exact J4 _ (by rw [if_neg (c := spN C k = b) h1, if_neg (c := (nbr (spN C k) b) = false) (by rw [h2]; decide)])
theorem chg_oth (C : Cf) (b w : Nat) (x : Int64) (S : St) {c : Nat} (h : ¬ c = 11) : ∀ n, itr (chgS C b w x) S n c = S c
  | 0 => rfl
  | n + 1 => by
    show chgS C b w x n (itr (chgS C b w x) S n) c = S c
    unfold chgS
    split
    · exact chg_oth C b w x S h n
    · rw [u2_c _ _ _ h]; exact chg_oth C b w x S h n
theorem clr_oth (k : Nat) (S : St) {c : Nat} (h : ¬ c = 11) : ∀ n, clrS k S n c = S c
  | 0 => rfl
  | n + 1 => (u2_c _ _ _ h).trans (clr_oth k S h n)
theorem note_oth (S : St) (k : Nat) (x : Int64) {c : Nat} (h : ¬ (9 ≤ c ∧ c ≤ 11)) : noteS S k x c = S c := by
  unfold noteS
  split
  · rw [u2_c _ _ _ (by omega), u2_c _ _ _ (by omega)]
  · rw [clr_oth _ _ (by omega), u2_c _ _ _ (by omega), u2_c _ _ _ (by omega)]
theorem hV_X3_charge : yX3_charge.cls = RX3 ∧ yX3_charge.cls ≠ "java/lang/invoke/MethodHandle" ∧ yX3_charge.cls ≠ "java/lang/invoke/VarHandle" ∧ (parseMethodDescriptor yX3_charge.desc).map (fun d => d.parameters.length) = some 3 := by decide +kernel
abbrev rm_X3_charge : Room := { frames := 2, cells := 0, slots := 0, locals := 44 }
set_option maxRecDepth 100000 in
set_option maxHeartbeats 4000000 in
theorem m_X3_charge (l : Launch) (D : va_G) (cI cJ cZ : ClassId) (g : Nat → Nat) (C : Cf) (N : Nat → Nat) (S : St) (w b : Nat) (x : Int64) (hw : w < 10) (hb : b < 12) (hn : N 2 ≤ 4) (hsp : ∀ k, k < N 2 → C 7 k = nI (spN C k) ∧ spN C k < 12) : g_Ct l D cI cJ cZ yX3_charge cX3_charge 6 none rm_X3_charge 0 0 [.ref (g 0), .int (nI w), .int (nI b), .long x] (wS g cI cJ C N S) (g_eq none (wS g cI cJ C N (itr (chgS C b w x) S (N 2)))) := by
  refine g_body RX3 [(0, .ref (g 0)), (1, .int (nI w)), (2, .int (nI b)), (3, .long x)] kH_X3 rfl (Nat.le_of_ble_eq_true rfl) rfl ?_
  intro p e s m args below meth c A X hr hlk hmn Q hQ
  refine g_iconst X (v := nI 0) dX3_charge_0 (by decide +kernel) ?_
  refine g_istore X [(5, .int (nI 0)), (0, .ref (g 0)), (1, .int (nI w)), (2, .int (nI b)), (3, .long x)] dX3_charge_1 (Nat.le_of_ble_eq_true rfl) rfl ?_
  have L1 : ∀ (n3 i2 : Nat) (S4 : St), i2 + n3 = (N 2) → S4 = itr (chgS C b w x) S i2 → g_G p l e rm_X3_charge s m args below meth c D A 6 0 0 Q (wS g cI cJ C N S4) [(0, .ref (g 0)), (1, .int (nI w)), (2, .int (nI b)), (3, .long x), (5, .int (nI i2))] 3 [] := by
    intro n3
    induction n3 with
    | zero =>
      intro i2 S4 hi5 eS4
      obtain rfl : i2 = (N 2) := by omega
      refine g_iload X 4 dX3_charge_3 rfl ?_
      refine g_aload_n X 0 dX3_charge_5 rfl rfl ?_
      refine g_get X (C := RX3) (T := TX3) (N := 7) (v := .int (nI (N 2))) inlX3 0 rfl rfl 0 (Nat.le_of_ble_eq_true rfl) kF_X3_9 rfl dX3_charge_6 ?_
      refine g_icN_ge X (a := (N 2)) (b := N 2) (tgt := 44) (by omega) (by omega) dX3_charge_9 (by decide) (fun h6 => ?_) (fun h6 => absurd h6 (by omega))
      refine g_vret X hr hlk hQ dX3_charge_44 ?_
      show g_eq _ _ _ _
      try rw [eS4]
      exact ⟨rfl, rfl⟩
    | succ n3 ihL1 =>
      intro i2 S4 hi5 eS4
      have hlti2 : i2 < (N 2) := by omega
      refine g_iload X 4 dX3_charge_3 rfl ?_
      refine g_aload_n X 0 dX3_charge_5 rfl rfl ?_
      refine g_get X (C := RX3) (T := TX3) (N := 7) (v := .int (nI (N 2))) inlX3 0 rfl rfl 0 (Nat.le_of_ble_eq_true rfl) kF_X3_9 rfl dX3_charge_6 ?_
      refine g_icN_ge X (a := i2) (b := N 2) (tgt := 44) (by omega) (by omega) dX3_charge_9 (by decide) (fun h7 => absurd h7 (by omega)) (fun h7 => ?_)
      refine g_aload_n X 0 dX3_charge_12 rfl rfl ?_
      refine g_iload X 4 dX3_charge_13 rfl ?_
      refine g_iload_n X 2 dX3_charge_15 rfl rfl ?_
      refine g_callV X (As := [.int (nI i2), .int (nI b)]) (rest := []) (m_X3_isNear l D cI cJ cZ g C N S4 i2 b (by omega) (hsp _ (by omega)) hb) kM_X3_43 kI_yX3_isNear kS_yX3_isNear kZ_RX3 kC_yX3_isNear hV_X3_isNear rfl rfl rfl 0 rfl (ci := 3) rfl ⟨Nat.le_of_ble_eq_true rfl, Nat.le_of_ble_eq_true rfl⟩ ⟨Nat.le_of_ble_eq_true rfl, Nat.le_of_ble_eq_true rfl⟩ (Nat.le_of_ble_eq_true rfl) dX3_charge_16 rfl [0, 1, 2, 3, 4, 5, 6] rfl rfl (g_kk1 (w2 := wS g cI cJ C N S4) ⟨[0, 1, 2, 3, 4, 5, 6], [], [0, 1, 2, 3, 4, 5, 6], [], rfl, rfl, rfl, rfl, by decide, rfl, rfl⟩ ?_)
      have J11 : ∀ (S10 : St), S10 = (if (nearS C i2 b) = false then S4 else (u2 S4 11 (10 * i2 + w) ((S4 11 (10 * i2 + w)) + x))) → g_G p l e rm_X3_charge s m args below meth c D A 6 0 0 Q (wS g cI cJ C N S10) [(0, .ref (g 0)), (1, .int (nI w)), (2, .int (nI b)), (3, .long x), (5, .int (nI i2))] 38 [] := by
        intro S10 eS10
        refine g_iinc X [(5, .int (nI (i2 + 1))), (0, .ref (g 0)), (1, .int (nI w)), (2, .int (nI b)), (3, .long x)] (q := 4) (v := nI (i2 + 1)) dX3_charge_38 rfl ((congrArg (fun z => nI (i2) + z) (show Int32.ofInt 1 = nI 1 by decide +kernel)).trans ((nI_add _ _).trans (congrArg nI (by omega)))) (Nat.le_of_ble_eq_true rfl) rfl ?_
        refine g_goto X (tgt := 3) dX3_charge_41 (by decide) ?_
        refine g_lv _ [1, 2, 3, 4, 0] rfl ?_
        exact ihL1 (i2 + 1) _ (by omega) (by (try rw [eS10]); (try rw [eS4]); first | done | (show _ = (if _ then _ else _); rfl))
      refine g_bI_eq X (tgt := 38) dX3_charge_19 (by decide) (fun h8 => ?_) (fun h8 => ?_)
      · --
        exact J11 _ (by rw [if_pos (c := (nearS C i2 b) = false) h8])
      · --
        refine g_aload_n X 0 dX3_charge_22 rfl rfl ?_
        refine g_get X (C := RX3) (T := TX3) (N := 7) (v := .ref (g 6)) inlX3 0 rfl rfl 6 (Nat.le_of_ble_eq_true rfl) kF_X3_32 rfl dX3_charge_23 ?_
        refine g_iload X 4 dX3_charge_26 rfl ?_
        refine g_bipush X (v := nI 10) dX3_charge_28 (by decide +kernel) ?_
        refine g_imul X (v := nI (10 * i2)) dX3_charge_30 ((pk_mul _ _).trans (congrArg nI (by omega))) ?_
        refine g_iload_n X 1 dX3_charge_31 rfl rfl ?_
        refine g_iadd X (v := nI (10 * i2 + w)) dX3_charge_32 ((nI_add _ _).trans (congrArg nI (by omega))) ?_
        refine g_dup2_11 X dX3_charge_33 rfl rfl ?_
        refine g_lald X 6 rfl (10 * i2 + w) rfl (by omega) (Nat.le_of_ble_eq_true rfl) (v := S4 11 (10 * i2 + w)) rfl dX3_charge_34 ?_
        refine g_lload_n X 3 dX3_charge_35 rfl rfl ?_
        refine g_ladd X (v := (S4 11 (10 * i2 + w)) + x) dX3_charge_36 rfl ?_
        obtain ⟨S9, eS9⟩ : ∃ z : St, z = u2 S4 11 (10 * i2 + w) ((S4 11 (10 * i2 + w)) + x) := ⟨_, rfl⟩
        refine g_last X (ws' := wS g cI cJ C N S9) 6 rfl (10 * i2 + w) rfl (by omega) (Nat.le_of_ble_eq_true rfl) dX3_charge_37 (by rw [eS9]; first | done | (rfl)) ?_
        exact J11 _ (by (try rw [eS9]); rw [if_neg (c := (nearS C i2 b) = false) (by rw [h8]; decide)])
  refine g_lv _ [1, 2, 3, 4, 0] rfl ?_
  exact L1 ((N 2)) 0 _ (by omega) (by first | done | rfl)
theorem hV_X3_clearAccounts : yX3_clearAccounts.cls = RX3 ∧ yX3_clearAccounts.cls ≠ "java/lang/invoke/MethodHandle" ∧ yX3_clearAccounts.cls ≠ "java/lang/invoke/VarHandle" ∧ (parseMethodDescriptor yX3_clearAccounts.desc).map (fun d => d.parameters.length) = some 1 := by decide +kernel
abbrev rm_X3_clearAccounts : Room := { frames := 0, cells := 0, slots := 0, locals := 0 }
set_option maxRecDepth 100000 in
set_option maxHeartbeats 4000000 in
theorem m_X3_clearAccounts (l : Launch) (D : va_G) (cI cJ cZ : ClassId) (g : Nat → Nat) (C : Cf) (N : Nat → Nat) (S : St) (k : Nat) (hk : k < 4) : g_Ct l D cI cJ cZ yX3_clearAccounts cX3_clearAccounts 3 none rm_X3_clearAccounts 0 0 [.ref (g 0), .int (nI k)] (wS g cI cJ C N S) (g_eq none (wS g cI cJ C N (clrS k S 10))) := by
  refine g_body RX3 [(0, .ref (g 0)), (1, .int (nI k))] kH_X3 rfl (Nat.le_of_ble_eq_true rfl) rfl ?_
  intro p e s m args below meth c A X hr hlk hmn Q hQ
  refine g_iconst X (v := nI 0) dX3_clearAccounts_0 (by decide +kernel) ?_
  refine g_istore_n X [(2, .int (nI 0)), (0, .ref (g 0)), (1, .int (nI k))] dX3_clearAccounts_1 rfl (Nat.le_of_ble_eq_true rfl) rfl ?_
  have L1 : ∀ (n3 i2 : Nat) (S4 : St), i2 + n3 = 10 → S4 = clrS k S i2 → g_G p l e rm_X3_clearAccounts s m args below meth c D A 3 0 0 Q (wS g cI cJ C N S4) [(0, .ref (g 0)), (1, .int (nI k)), (2, .int (nI i2))] 2 [] := by
    intro n3
    induction n3 with
    | zero =>
      intro i2 S4 hi5 eS4
      obtain rfl : i2 = 10 := by omega
      refine g_iload_n X 2 dX3_clearAccounts_2 rfl rfl ?_
      refine g_bipush X (v := nI 10) dX3_clearAccounts_3 (by decide +kernel) ?_
      refine g_icN_ge X (a := 10) (b := 10) (tgt := 26) (by omega) (by omega) dX3_clearAccounts_5 (by decide) (fun h6 => ?_) (fun h6 => absurd h6 (by omega))
      refine g_vret X hr hlk hQ dX3_clearAccounts_26 ?_
      show g_eq _ _ _ _
      try rw [eS4]
      exact ⟨rfl, rfl⟩
    | succ n3 ihL1 =>
      intro i2 S4 hi5 eS4
      have hlti2 : i2 < 10 := by omega
      refine g_iload_n X 2 dX3_clearAccounts_2 rfl rfl ?_
      refine g_bipush X (v := nI 10) dX3_clearAccounts_3 (by decide +kernel) ?_
      refine g_icN_ge X (a := i2) (b := 10) (tgt := 26) (by omega) (by omega) dX3_clearAccounts_5 (by decide) (fun h7 => absurd h7 (by omega)) (fun h7 => ?_)
      refine g_aload_n X 0 dX3_clearAccounts_8 rfl rfl ?_
      refine g_get X (C := RX3) (T := TX3) (N := 7) (v := .ref (g 6)) inlX3 0 rfl rfl 6 (Nat.le_of_ble_eq_true rfl) kF_X3_32 rfl dX3_clearAccounts_9 ?_
      refine g_iload_n X 1 dX3_clearAccounts_12 rfl rfl ?_
      refine g_bipush X (v := nI 10) dX3_clearAccounts_13 (by decide +kernel) ?_
      refine g_imul X (v := nI (10 * k)) dX3_clearAccounts_15 ((pk_mul _ _).trans (congrArg nI (by omega))) ?_
      refine g_iload_n X 2 dX3_clearAccounts_16 rfl rfl ?_
      refine g_iadd X (v := nI (10 * k + i2)) dX3_clearAccounts_17 ((nI_add _ _).trans (congrArg nI (by omega))) ?_
      refine g_lconst X (v := 0) dX3_clearAccounts_18 (by decide +kernel) ?_
      obtain ⟨S8, eS8⟩ : ∃ z : St, z = u2 S4 11 (10 * k + i2) (0 : Int64) := ⟨_, rfl⟩
      refine g_last X (ws' := wS g cI cJ C N S8) 6 rfl (10 * k + i2) rfl (by omega) (Nat.le_of_ble_eq_true rfl) dX3_clearAccounts_19 (by rw [eS8]; first | done | (rfl)) ?_
      refine g_iinc X [(2, .int (nI (i2 + 1))), (0, .ref (g 0)), (1, .int (nI k))] (q := 2) (v := nI (i2 + 1)) dX3_clearAccounts_20 rfl ((congrArg (fun z => nI (i2) + z) (show Int32.ofInt 1 = nI 1 by decide +kernel)).trans ((nI_add _ _).trans (congrArg nI (by omega)))) (Nat.le_of_ble_eq_true rfl) rfl ?_
      refine g_goto X (tgt := 2) dX3_clearAccounts_23 (by decide) ?_
      refine g_lv _ [1, 2, 0] rfl ?_
      exact ihL1 (i2 + 1) _ (by omega) (by (try rw [eS8]); (try rw [eS4]); first | done | (rfl))
  refine g_lv _ [1, 2, 0] rfl ?_
  exact L1 (10) 0 _ (by omega) (by first | done | rfl)
theorem hV_X3_note : yX3_note.cls = RX3 ∧ yX3_note.cls ≠ "java/lang/invoke/MethodHandle" ∧ yX3_note.cls ≠ "java/lang/invoke/VarHandle" ∧ (parseMethodDescriptor yX3_note.desc).map (fun d => d.parameters.length) = some 2 := by decide +kernel
abbrev rm_X3_note : Room := { frames := 1, cells := 0, slots := 0, locals := 22 }
set_option maxRecDepth 100000 in
set_option maxHeartbeats 4000000 in
theorem m_X3_note (l : Launch) (D : va_G) (cI cJ cZ : ClassId) (g : Nat → Nat) (C : Cf) (N : Nat → Nat) (S : St) (k : Nat) (x : Int64) (hk : k < 4) : g_Ct l D cI cJ cZ yX3_note cX3_note 4 none rm_X3_note 0 0 [.ref (g 0), .int (nI k), .long x] (wS g cI cJ C N S) (g_eq none (wS g cI cJ C N (noteS S k x))) := by
  refine g_body RX3 [(0, .ref (g 0)), (1, .int (nI k)), (2, .long x)] kH_X3 rfl (Nat.le_of_ble_eq_true rfl) rfl ?_
  intro p e s m args below meth c A X hr hlk hmn Q hQ
  refine g_aload_n X 0 dX3_note_0 rfl rfl ?_
  refine g_get X (C := RX3) (T := TX3) (N := 7) (v := .ref (g 4)) inlX3 0 rfl rfl 4 (Nat.le_of_ble_eq_true rfl) kF_X3_25 rfl dX3_note_1 ?_
  refine g_iload_n X 1 dX3_note_4 rfl rfl ?_
  refine g_lload_n X 2 dX3_note_5 rfl rfl ?_
  obtain ⟨S1, eS1⟩ : ∃ z : St, z = u2 S 9 k x := ⟨_, rfl⟩
  refine g_last X (ws' := wS g cI cJ C N S1) 4 rfl (k) rfl (by omega) (Nat.le_of_ble_eq_true rfl) dX3_note_6 (by rw [eS1]; first | done | (rfl)) ?_
  refine g_lload_n X 2 dX3_note_7 rfl rfl ?_
  refine g_lconst X (v := 0) dX3_note_8 (by decide +kernel) ?_
  have J7 : ∀ (S6 : St), S6 = (if x ≤ (0 : Int64) then (u2 S1 10 k (S1 10 k + 1)) else (clrS k (u2 S1 10 k (0 : Int64)) 10)) → g_G p l e rm_X3_note s m args below meth c D A 4 0 0 Q (wS g cI cJ C N S6) [] 38 [] := by
    intro S6 eS6
    refine g_vret X hr hlk hQ dX3_note_38 ?_
    show g_eq _ _ _ _
    try rw [eS6]
    try rw [eS1]
    exact ⟨rfl, rfl⟩
  refine g_lj_le X (tgt := 28) (pc1 := 10) dX3_note_9 rfl dX3_note_10 (by decide) (fun h2 => ?_) (fun h2 => ?_)
  · --
    refine g_aload_n X 0 dX3_note_28 rfl rfl ?_
    refine g_get X (C := RX3) (T := TX3) (N := 7) (v := .ref (g 5)) inlX3 0 rfl rfl 5 (Nat.le_of_ble_eq_true rfl) kF_X3_29 rfl dX3_note_29 ?_
    refine g_iload_n X 1 dX3_note_32 rfl rfl ?_
    refine g_dup2_11 X dX3_note_33 rfl rfl ?_
    refine g_iald X 5 rfl (k) rfl (by omega) (Nat.le_of_ble_eq_true rfl) (v := (S1 10 k).toInt32) rfl dX3_note_34 ?_
    refine g_iconst X (v := nI 1) dX3_note_35 (by decide +kernel) ?_
    refine g_iadd X (v := ((S1 10 k).toInt32) + (nI 1)) dX3_note_36 rfl ?_
    obtain ⟨S3, eS3⟩ : ∃ z : St, z = u2 S1 10 k (S1 10 k + 1) := ⟨_, rfl⟩
    refine g_iast X (ws' := wS g cI cJ C N S3) 5 rfl (k) rfl (by omega) (Nat.le_of_ble_eq_true rfl) dX3_note_37 (by rw [eS3]; first | done | (rw [i32_updV _ _ (v := (S1 10 k + 1)) (by rw [Int64.toInt32_add]; rfl)]; rfl)) ?_
    refine g_lv _ [] rfl ?_
    exact J7 _ (by (try rw [eS3]); rw [if_pos (c := x ≤ (0 : Int64)) h2])
  · --
    refine g_aload_n X 0 dX3_note_13 rfl rfl ?_
    refine g_get X (C := RX3) (T := TX3) (N := 7) (v := .ref (g 5)) inlX3 0 rfl rfl 5 (Nat.le_of_ble_eq_true rfl) kF_X3_29 rfl dX3_note_14 ?_
    refine g_iload_n X 1 dX3_note_17 rfl rfl ?_
    refine g_iconst X (v := nI 0) dX3_note_18 (by decide +kernel) ?_
    obtain ⟨S4, eS4⟩ : ∃ z : St, z = u2 S1 10 k (0 : Int64) := ⟨_, rfl⟩
    refine g_iast X (ws' := wS g cI cJ C N S4) 5 rfl (k) rfl (by omega) (Nat.le_of_ble_eq_true rfl) dX3_note_19 (by rw [eS4]; first | done | (rw [i32_updV _ _ (v := (0 : Int64)) (by decide +kernel)]; rfl)) ?_
    refine g_aload_n X 0 dX3_note_20 rfl rfl ?_
    refine g_iload_n X 1 dX3_note_21 rfl rfl ?_
    obtain ⟨S5, eS5⟩ : ∃ z : St, z = clrS k S4 10 := ⟨_, rfl⟩
    refine g_callV X (As := [.int (nI k)]) (rest := []) (m_X3_clearAccounts l D cI cJ cZ g C N S4 k (by omega)) kM_X3_46 kI_yX3_clearAccounts kS_yX3_clearAccounts kZ_RX3 kC_yX3_clearAccounts hV_X3_clearAccounts rfl rfl rfl 0 rfl (ci := 3) rfl ⟨Nat.le_of_ble_eq_true rfl, Nat.le_of_ble_eq_true rfl⟩ ⟨Nat.le_of_ble_eq_true rfl, Nat.le_of_ble_eq_true rfl⟩ (Nat.le_of_ble_eq_true rfl) dX3_note_22 rfl [0, 1, 2, 3, 4, 5, 6] rfl rfl (g_kk1 (w2 := wS g cI cJ C N S5) (by rw [eS5]; exact ⟨[0, 1, 2, 3, 4, 5, 6], [], [0, 1, 2, 3, 4, 5, 6], [], rfl, rfl, rfl, rfl, by decide, rfl, rfl⟩) ?_)
    refine g_goto X (tgt := 38) dX3_note_25 (by decide) ?_
    refine g_lv _ [] rfl ?_
    exact J7 _ (by (try rw [eS5]); (try rw [eS4]); rw [if_neg (c := x ≤ (0 : Int64)) h2])
theorem hV_X3_toBlame : yX3_toBlame.cls = RX3 ∧ yX3_toBlame.cls ≠ "java/lang/invoke/MethodHandle" ∧ yX3_toBlame.cls ≠ "java/lang/invoke/VarHandle" ∧ (parseMethodDescriptor yX3_toBlame.desc).map (fun d => d.parameters.length) = some 1 := by decide +kernel
abbrev rm_X3_toBlame : Room := { frames := 0, cells := 0, slots := 0, locals := 0 }
set_option maxRecDepth 100000 in
set_option maxHeartbeats 4000000 in
theorem m_X3_toBlame (l : Launch) (D : va_G) (cI cJ cZ : ClassId) (g : Nat → Nat) (C : Cf) (N : Nat → Nat) (S : St) (k : Nat) (hk : k < 4) : g_Ct l D cI cJ cZ yX3_toBlame cX3_toBlame 8 (some .int) rm_X3_toBlame 0 0 [.ref (g 0), .int (nI k)] (wS g cI cJ C N S) (g_eq (some (.int ((blm S k 10).1))) (wS g cI cJ C N S)) := by
  refine g_body RX3 [(0, .ref (g 0)), (1, .int (nI k))] kH_X3 rfl (Nat.le_of_ble_eq_true rfl) rfl ?_
  intro p e s m args below meth c A X hr hlk hmn Q hQ
  refine g_iconst X (v := (-1 : Int32)) dX3_toBlame_0 (by decide +kernel) ?_
  refine g_istore_n X [(2, .int (-1 : Int32)), (0, .ref (g 0)), (1, .int (nI k))] dX3_toBlame_1 rfl (Nat.le_of_ble_eq_true rfl) rfl ?_
  refine g_lconst X (v := 0) dX3_toBlame_2 (by decide +kernel) ?_
  refine g_lstore_n X [(3, .long (0 : Int64)), (2, .int (-1 : Int32)), (0, .ref (g 0)), (1, .int (nI k))] dX3_toBlame_3 rfl (Nat.le_of_ble_eq_true rfl) rfl ?_
  refine g_iconst X (v := nI 0) dX3_toBlame_4 (by decide +kernel) ?_
  refine g_istore X [(5, .int (nI 0)), (3, .long (0 : Int64)), (2, .int (-1 : Int32)), (0, .ref (g 0)), (1, .int (nI k))] dX3_toBlame_5 (Nat.le_of_ble_eq_true rfl) rfl ?_
  have L1 : ∀ (n3 i2 : Nat) (a4 : Int32) (a5 : Int64), i2 + n3 = 10 → a4 = (blm S k i2).1 → a5 = (blm S k i2).2 → g_G p l e rm_X3_toBlame s m args below meth c D A 8 0 0 Q (wS g cI cJ C N S) [(0, .ref (g 0)), (1, .int (nI k)), (2, .int a4), (3, .long a5), (5, .int (nI i2))] 7 [] := by
    intro n3
    induction n3 with
    | zero =>
      intro i2 a4 a5 hi6 ea4 ea5
      obtain rfl : i2 = 10 := by omega
      refine g_iload X 4 dX3_toBlame_7 rfl ?_
      refine g_bipush X (v := nI 10) dX3_toBlame_9 (by decide +kernel) ?_
      refine g_icN_ge X (a := 10) (b := 10) (tgt := 47) (by omega) (by omega) dX3_toBlame_11 (by decide) (fun h7 => ?_) (fun h7 => absurd h7 (by omega))
      refine g_iload_n X 2 dX3_toBlame_47 rfl rfl ?_
      refine g_iret X hr hlk hQ dX3_toBlame_48 ?_
      show g_eq _ _ _ _
      try rw [ea5]
      try rw [ea4]
      exact ⟨rfl, rfl⟩
    | succ n3 ihL1 =>
      intro i2 a4 a5 hi6 ea4 ea5
      have hlti2 : i2 < 10 := by omega
      refine g_iload X 4 dX3_toBlame_7 rfl ?_
      refine g_bipush X (v := nI 10) dX3_toBlame_9 (by decide +kernel) ?_
      refine g_icN_ge X (a := i2) (b := 10) (tgt := 47) (by omega) (by omega) dX3_toBlame_11 (by decide) (fun h8 => absurd h8 (by omega)) (fun h8 => ?_)
      refine g_aload_n X 0 dX3_toBlame_14 rfl rfl ?_
      refine g_get X (C := RX3) (T := TX3) (N := 7) (v := .ref (g 6)) inlX3 0 rfl rfl 6 (Nat.le_of_ble_eq_true rfl) kF_X3_32 rfl dX3_toBlame_15 ?_
      refine g_iload_n X 1 dX3_toBlame_18 rfl rfl ?_
      refine g_bipush X (v := nI 10) dX3_toBlame_19 (by decide +kernel) ?_
      refine g_imul X (v := nI (10 * k)) dX3_toBlame_21 ((pk_mul _ _).trans (congrArg nI (by omega))) ?_
      refine g_iload X 4 dX3_toBlame_22 rfl ?_
      refine g_iadd X (v := nI (10 * k + i2)) dX3_toBlame_24 ((nI_add _ _).trans (congrArg nI (by omega))) ?_
      refine g_lald X 6 rfl (10 * k + i2) rfl (by omega) (Nat.le_of_ble_eq_true rfl) (v := S 11 (10 * k + i2)) rfl dX3_toBlame_25 ?_
      refine g_lstore X [(6, .long (S 11 (10 * k + i2))), (0, .ref (g 0)), (1, .int (nI k)), (2, .int a4), (3, .long a5), (5, .int (nI i2))] dX3_toBlame_26 (Nat.le_of_ble_eq_true rfl) rfl ?_
      refine g_lload X 0 dX3_toBlame_28 rfl ?_
      refine g_lload_n X 4 dX3_toBlame_30 rfl rfl ?_
      have J12 : ∀ (v10 : Int32) (v11 : Int64), v10 = (if (S 11 (10 * k + i2)) ≤ a5 then a4 else nI i2) → v11 = (if (S 11 (10 * k + i2)) ≤ a5 then a5 else S 11 (10 * k + i2)) → g_G p l e rm_X3_toBlame s m args below meth c D A 8 0 0 Q (wS g cI cJ C N S) [(0, .ref (g 0)), (1, .int (nI k)), (2, .int v10), (3, .long v11), (5, .int (nI i2))] 41 [] := by
        intro v10 v11 ev10 ev11
        refine g_iinc X [(5, .int (nI (i2 + 1))), (0, .ref (g 0)), (1, .int (nI k)), (2, .int v10), (3, .long v11)] (q := 4) (v := nI (i2 + 1)) dX3_toBlame_41 rfl ((congrArg (fun z => nI (i2) + z) (show Int32.ofInt 1 = nI 1 by decide +kernel)).trans ((nI_add _ _).trans (congrArg nI (by omega)))) (Nat.le_of_ble_eq_true rfl) rfl ?_
        refine g_goto X (tgt := 7) dX3_toBlame_44 (by decide) ?_
        refine g_lv _ [1, 2, 3, 4, 0] rfl ?_
        exact ihL1 (i2 + 1) _ _ (by omega) (by (try rw [ev11]); (try rw [ev10]); (try rw [ea5]); (try rw [ea4]); first | done | (rw [blm_s, apply_ite Prod.fst]; first | done | rfl)) (by (try rw [ev11]); (try rw [ev10]); (try rw [ea5]); (try rw [ea4]); first | done | (rw [blm_s, apply_ite Prod.snd]; first | done | rfl))
      refine g_lj_le X (tgt := 41) (pc1 := 32) dX3_toBlame_31 rfl dX3_toBlame_32 (by decide) (fun h9 => ?_) (fun h9 => ?_)
      · --
        refine g_lv _ [1, 2, 3, 4, 5] rfl ?_
        exact J12 _ _ (by rw [if_pos (c := (S 11 (10 * k + i2)) ≤ a5) h9]) (by rw [if_pos (c := (S 11 (10 * k + i2)) ≤ a5) h9])
      · --
        refine g_lload X 0 dX3_toBlame_35 rfl ?_
        refine g_lstore_n X [(3, .long (S 11 (10 * k + i2))), (6, .long (S 11 (10 * k + i2))), (0, .ref (g 0)), (1, .int (nI k)), (2, .int a4), (5, .int (nI i2))] dX3_toBlame_37 rfl (Nat.le_of_ble_eq_true rfl) rfl ?_
        refine g_iload X 5 dX3_toBlame_38 rfl ?_
        refine g_istore_n X [(2, .int (nI i2)), (3, .long (S 11 (10 * k + i2))), (6, .long (S 11 (10 * k + i2))), (0, .ref (g 0)), (1, .int (nI k)), (5, .int (nI i2))] dX3_toBlame_40 rfl (Nat.le_of_ble_eq_true rfl) rfl ?_
        refine g_lv _ [3, 4, 0, 1, 5] rfl ?_
        exact J12 _ _ (by rw [if_neg (c := (S 11 (10 * k + i2)) ≤ a5) h9]) (by rw [if_neg (c := (S 11 (10 * k + i2)) ≤ a5) h9])
  refine g_lv _ [3, 4, 2, 1, 0] rfl ?_
  exact L1 (10) 0 _ _ (by omega) (by first | done | rfl) (by first | done | rfl)
theorem hV_X3_tell : yX3_tell.cls = RX3 ∧ yX3_tell.cls ≠ "java/lang/invoke/MethodHandle" ∧ yX3_tell.cls ≠ "java/lang/invoke/VarHandle" ∧ (parseMethodDescriptor yX3_tell.desc).map (fun d => d.parameters.length) = some 2 := by decide +kernel
abbrev rm_X3_tell : Room := { frames := 1, cells := 0, slots := 0, locals := 27 }
set_option maxRecDepth 100000 in
set_option maxHeartbeats 4000000 in
theorem m_X3_tell (l : Launch) (D : va_G) (cI cJ cZ : ClassId) (g : Nat → Nat) (C : Cf) (N : Nat → Nat) (S : St) (k q : Nat) (hk : k < 4) (hq : q < 5) : g_Ct l D cI cJ cZ yX3_tell cX3_tell 3 (some .long) rm_X3_tell 0 0 [.ref (g 0), .int (nI k), .int (nI q)] (wS g cI cJ C N S) (g_eq (some (.long (tellS C S k q))) (wS g cI cJ C N S)) := by
  refine g_body RX3 [(0, .ref (g 0)), (1, .int (nI k)), (2, .int (nI q))] kH_X3 rfl (Nat.le_of_ble_eq_true rfl) rfl ?_
  intro p e s m args below meth c A X hr hlk hmn Q hQ
  refine g_iload_n X 2 dX3_tell_0 rfl rfl ?_
  rcases (show q = 0 ∨ q = 1 ∨ q = 2 ∨ q = 3 ∨ q = 4 by omega) with rfl | rfl | rfl | rfl | rfl
  · --
    refine g_tsw X (tgt := 32) dX3_tell_1 (by decide +kernel) rfl (by decide) ?_
    refine g_aload_n X 0 dX3_tell_32 rfl rfl ?_
    refine g_get X (C := RX3) (T := TX3) (N := 7) (v := .ref (g 1)) inlX3 0 rfl rfl 1 (Nat.le_of_ble_eq_true rfl) kF_X3_15 rfl dX3_tell_33 ?_
    refine g_iload_n X 1 dX3_tell_36 rfl rfl ?_
    refine g_iald X 1 rfl (k) rfl (by omega) (Nat.le_of_ble_eq_true rfl) (v := C 7 k) rfl dX3_tell_37 ?_
    refine g_i2l X (v := (C 7 k).toInt64) dX3_tell_38 rfl ?_
    refine g_lret X hr hlk hQ dX3_tell_39 ?_
    show g_eq _ _ _ _
    exact ⟨rfl, rfl⟩
  · --
    refine g_tsw X (tgt := 40) dX3_tell_1 (by decide +kernel) rfl (by decide) ?_
    refine g_aload_n X 0 dX3_tell_40 rfl rfl ?_
    refine g_get X (C := RX3) (T := TX3) (N := 7) (v := .ref (g 4)) inlX3 0 rfl rfl 4 (Nat.le_of_ble_eq_true rfl) kF_X3_25 rfl dX3_tell_41 ?_
    refine g_iload_n X 1 dX3_tell_44 rfl rfl ?_
    refine g_lald X 4 rfl (k) rfl (by omega) (Nat.le_of_ble_eq_true rfl) (v := S 9 k) rfl dX3_tell_45 ?_
    refine g_lret X hr hlk hQ dX3_tell_46 ?_
    show g_eq _ _ _ _
    exact ⟨rfl, rfl⟩
  · --
    refine g_tsw X (tgt := 47) dX3_tell_1 (by decide +kernel) rfl (by decide) ?_
    refine g_aload_n X 0 dX3_tell_47 rfl rfl ?_
    refine g_get X (C := RX3) (T := TX3) (N := 7) (v := .ref (g 3)) inlX3 0 rfl rfl 3 (Nat.le_of_ble_eq_true rfl) kF_X3_22 rfl dX3_tell_48 ?_
    refine g_iload_n X 1 dX3_tell_51 rfl rfl ?_
    refine g_iald X 3 rfl (k) rfl (by omega) (Nat.le_of_ble_eq_true rfl) (v := C 9 k) rfl dX3_tell_52 ?_
    refine g_i2l X (v := (C 9 k).toInt64) dX3_tell_53 rfl ?_
    refine g_lret X hr hlk hQ dX3_tell_54 ?_
    show g_eq _ _ _ _
    exact ⟨rfl, rfl⟩
  · --
    refine g_tsw X (tgt := 55) dX3_tell_1 (by decide +kernel) rfl (by decide) ?_
    refine g_aload_n X 0 dX3_tell_55 rfl rfl ?_
    refine g_get X (C := RX3) (T := TX3) (N := 7) (v := .ref (g 5)) inlX3 0 rfl rfl 5 (Nat.le_of_ble_eq_true rfl) kF_X3_29 rfl dX3_tell_56 ?_
    refine g_iload_n X 1 dX3_tell_59 rfl rfl ?_
    refine g_iald X 5 rfl (k) rfl (by omega) (Nat.le_of_ble_eq_true rfl) (v := (S 10 k).toInt32) rfl dX3_tell_60 ?_
    refine g_i2l X (v := ((S 10 k).toInt32).toInt64) dX3_tell_61 rfl ?_
    refine g_lret X hr hlk hQ dX3_tell_62 ?_
    show g_eq _ _ _ _
    exact ⟨rfl, rfl⟩
  · --
    refine g_tswO X (tgt := 63) dX3_tell_1 (by decide +kernel) (by decide) ?_
    refine g_aload_n X 0 dX3_tell_63 rfl rfl ?_
    refine g_iload_n X 1 dX3_tell_64 rfl rfl ?_
    refine g_callV X (As := [.int (nI k)]) (rest := []) (m_X3_toBlame l D cI cJ cZ g C N S k (by omega)) kM_X3_35 kI_yX3_toBlame kS_yX3_toBlame kZ_RX3 kC_yX3_toBlame hV_X3_toBlame rfl rfl rfl 0 rfl (ci := 3) rfl ⟨Nat.le_of_ble_eq_true rfl, Nat.le_of_ble_eq_true rfl⟩ ⟨Nat.le_of_ble_eq_true rfl, Nat.le_of_ble_eq_true rfl⟩ (Nat.le_of_ble_eq_true rfl) dX3_tell_65 rfl [0, 1, 2, 3, 4, 5, 6] rfl rfl (g_kk1 (w2 := wS g cI cJ C N S) ⟨[0, 1, 2, 3, 4, 5, 6], [], [0, 1, 2, 3, 4, 5, 6], [], rfl, rfl, rfl, rfl, by decide, rfl, rfl⟩ ?_)
    refine g_i2l X (v := ((blm S k 10).1).toInt64) dX3_tell_68 rfl ?_
    refine g_lret X hr hlk hQ dX3_tell_69 ?_
    show g_eq _ _ _ _
    exact ⟨rfl, rfl⟩
theorem hV_X3_add : yX3_add.cls = RX3 ∧ yX3_add.cls ≠ "java/lang/invoke/MethodHandle" ∧ yX3_add.cls ≠ "java/lang/invoke/VarHandle" ∧ (parseMethodDescriptor yX3_add.desc).map (fun d => d.parameters.length) = some 3 := by decide +kernel
abbrev rm_X3_add : Room := { frames := 0, cells := 0, slots := 0, locals := 0 }
set_option maxRecDepth 100000 in
set_option maxHeartbeats 4000000 in
theorem m_X3_add (l : Launch) (D : va_G) (cI cJ cZ : ClassId) (g : Nat → Nat) (C : Cf) (N : Nat → Nat) (S : St) (a b d : Int32) (hn : N 2 < 4) : g_Ct l D cI cJ cZ yX3_add cX3_add 5 (some .int) rm_X3_add 0 0 [.ref (g 0), .int a, .int b, .int d] (wS g cI cJ C N S) (g_eq (some (.int (nI (N 2)))) (wS g cI cJ (c2 (c2 (c2 C 7 (N 2) a) 8 (N 2) b) 9 (N 2) d) (n2 N 2 (N 2 + 1)) S)) := by
  refine g_body RX3 [(0, .ref (g 0)), (1, .int a), (2, .int b), (3, .int d)] kH_X3 rfl (Nat.le_of_ble_eq_true rfl) rfl ?_
  intro p e s m args below meth c A X hr hlk hmn Q hQ
  refine g_aload_n X 0 dX3_add_0 rfl rfl ?_
  refine g_get X (C := RX3) (T := TX3) (N := 7) (v := .int (nI (N 2))) inlX3 0 rfl rfl 0 (Nat.le_of_ble_eq_true rfl) kF_X3_9 rfl dX3_add_1 ?_
  refine g_istore X [(4, .int (nI (N 2))), (0, .ref (g 0)), (1, .int a), (2, .int b), (3, .int d)] dX3_add_4 (Nat.le_of_ble_eq_true rfl) rfl ?_
  refine g_aload_n X 1 dX3_add_6 rfl rfl ?_
  refine g_get X (C := RX3) (T := TX3) (N := 7) (v := .ref (g 1)) inlX3 0 rfl rfl 1 (Nat.le_of_ble_eq_true rfl) kF_X3_15 rfl dX3_add_7 ?_
  refine g_iload X 0 dX3_add_10 rfl ?_
  refine g_iload_n X 2 dX3_add_12 rfl rfl ?_
  obtain ⟨C1, eC1⟩ : ∃ z : Cf, z = c2 C 7 (N 2) a := ⟨_, rfl⟩
  refine g_iast X (ws' := wS g cI cJ C1 N S) 1 rfl (N 2) rfl (by omega) (Nat.le_of_ble_eq_true rfl) dX3_add_13 (by rw [eC1]; first | done | (rfl)) ?_
  refine g_aload_n X 1 dX3_add_14 rfl rfl ?_
  refine g_get X (C := RX3) (T := TX3) (N := 7) (v := .ref (g 2)) inlX3 0 rfl rfl 2 (Nat.le_of_ble_eq_true rfl) kF_X3_19 rfl dX3_add_15 ?_
  refine g_iload X 0 dX3_add_18 rfl ?_
  refine g_iload_n X 3 dX3_add_20 rfl rfl ?_
  obtain ⟨C2, eC2⟩ : ∃ z : Cf, z = c2 C1 8 (N 2) b := ⟨_, rfl⟩
  refine g_iast X (ws' := wS g cI cJ C2 N S) 2 rfl (N 2) rfl (by omega) (Nat.le_of_ble_eq_true rfl) dX3_add_21 (by rw [eC2]; first | done | (rfl)) ?_
  refine g_aload_n X 1 dX3_add_22 rfl rfl ?_
  refine g_get X (C := RX3) (T := TX3) (N := 7) (v := .ref (g 3)) inlX3 0 rfl rfl 3 (Nat.le_of_ble_eq_true rfl) kF_X3_22 rfl dX3_add_23 ?_
  refine g_iload X 0 dX3_add_26 rfl ?_
  refine g_iload_n X 4 dX3_add_28 rfl rfl ?_
  obtain ⟨C3, eC3⟩ : ∃ z : Cf, z = c2 C2 9 (N 2) d := ⟨_, rfl⟩
  refine g_iast X (ws' := wS g cI cJ C3 N S) 3 rfl (N 2) rfl (by omega) (Nat.le_of_ble_eq_true rfl) dX3_add_29 (by rw [eC3]; first | done | (rfl)) ?_
  refine g_aload_n X 1 dX3_add_30 rfl rfl ?_
  refine g_dup X dX3_add_31 rfl ?_
  refine g_get X (C := RX3) (T := TX3) (N := 7) (v := .int (nI (N 2))) inlX3 0 rfl rfl 0 (Nat.le_of_ble_eq_true rfl) kF_X3_9 rfl dX3_add_32 ?_
  refine g_iconst X (v := nI 1) dX3_add_35 (by decide +kernel) ?_
  refine g_iadd X (v := nI (N 2 + 1)) dX3_add_36 ((nI_add _ _).trans (congrArg nI (by omega))) ?_
  obtain ⟨N4, eN4⟩ : ∃ z : Nat → Nat, z = n2 N 2 (N 2 + 1) := ⟨_, rfl⟩
  refine g_put X (C := RX3) (T := TX3) (N := 7) (ws' := wS g cI cJ C3 N4 S) inlX3 tyX3 tyX3_ok nmX3 0 rfl rfl 0 (Nat.le_of_ble_eq_true rfl) kF_X3_9 rfl rfl rfl (Nat.le_of_ble_eq_true rfl) dX3_add_37 (by rw [eN4]; first | done | (rfl)) ?_
  refine g_iload X 0 dX3_add_40 rfl ?_
  refine g_iret X hr hlk hQ dX3_add_42 ?_
  show g_eq _ _ _ _
  try rw [eN4]
  try rw [eC3]
  try rw [eC2]
  try rw [eC1]
  exact ⟨rfl, rfl⟩
