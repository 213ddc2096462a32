/-! quakes -/
def qN (S : St) : Nat := (S 14 0).toInt.toNat
def addQ (S : St) (Qk : Nat → Int64) (b : Nat) (x : Int64) : Nat → Int64 := if 60 ≤ qN S then Qk else vp_updL (vp_updL (vp_updL Qk (3 * qN S + 0) (S 13 0)) (3 * qN S + 1) (lN b)) (3 * qN S + 2) x
def tellQ (Qk : Nat → Int64) (q k : Nat) : Int32 := if k = 0 then (Qk (3 * q + 0)).toInt32 else if k = 1 then (Qk (3 * q + 1)).toInt32 else (Qk (3 * q + 2)).toInt32
theorem wQ_0 {g : Nat → Nat} {cI : ClassId} {S : St} {Qk : Nat → Int64} {j : Nat} {x : Int32} {v : Int64} (h : v.toInt32 = x) : (wQ g cI S Qk).set 1 (g 1, .inl (cI, 60, .inl (upd (qrow Qk 0) j x))) = wQ g cI S (vp_updL Qk (3 * j + 0) v) := by
  unfold wQ
  rw [qrow_upd Qk (by decide) h, qrow_oth Qk (by decide) (show 1 < 3 by decide) (by decide), qrow_oth Qk (by decide) (show 2 < 3 by decide) (by decide)]
  rfl
theorem wQ_1 {g : Nat → Nat} {cI : ClassId} {S : St} {Qk : Nat → Int64} {j : Nat} {x : Int32} {v : Int64} (h : v.toInt32 = x) : (wQ g cI S Qk).set 2 (g 2, .inl (cI, 60, .inl (upd (qrow Qk 1) j x))) = wQ g cI S (vp_updL Qk (3 * j + 1) v) := by
  unfold wQ
  rw [qrow_upd Qk (by decide) h, qrow_oth Qk (by decide) (show 0 < 3 by decide) (by decide), qrow_oth Qk (by decide) (show 2 < 3 by decide) (by decide)]
  rfl
theorem wQ_2 {g : Nat → Nat} {cI : ClassId} {S : St} {Qk : Nat → Int64} {j : Nat} {x : Int32} {v : Int64} (h : v.toInt32 = x) : (wQ g cI S Qk).set 3 (g 3, .inl (cI, 60, .inl (upd (qrow Qk 2) j x))) = wQ g cI S (vp_updL Qk (3 * j + 2) v) := by
  unfold wQ
  rw [qrow_upd Qk (by decide) h, qrow_oth Qk (by decide) (show 0 < 3 by decide) (by decide), qrow_oth Qk (by decide) (show 1 < 3 by decide) (by decide)]
  rfl
theorem mn60 {q : Nat} (hq : q < 2 ^ 31) : (if nI 60 < nI q then nI 60 else nI q) = nI (if 60 < q then 60 else q) := by
  by_cases h : 60 < q
  · rw [if_pos h, if_pos (nI_lt h hq)]
  · rw [if_neg h, if_neg (nI_nlt (by omega) (by decide))]
theorem q_32 {S : St} (h : S 14 0 = lN (qN S)) : (S 14 0).toInt32 = nI (qN S) := by rw [h]; exact lN_i _

theorem hV_X2_kept : yX2_kept.cls = RX2 ∧ yX2_kept.cls ≠ "java/lang/invoke/MethodHandle" ∧ yX2_kept.cls ≠ "java/lang/invoke/VarHandle" ∧ (parseMethodDescriptor yX2_kept.desc).map (fun d => d.parameters.length) = some 0 := by decide +kernel
abbrev rm_X2_kept : Room := { frames := 1, cells := 0, slots := 0, locals := 23 }
set_option maxRecDepth 100000 in
set_option maxHeartbeats 4000000 in
theorem m_X2_kept (l : Launch) (D : va_G) (cI cJ cZ : ClassId) (g : Nat → Nat) (S : St) (Qk : Nat → Int64) (hq : S 14 0 = lN (qN S) ∧ qN S ≤ 1000000) : g_Ct l D cI cJ cZ yX2_kept cX2_kept 1 (some .int) rm_X2_kept 0 0 [.ref (g 0)] (wQ g cI S Qk) (g_eq (some (.int (nI (if 60 < qN S then 60 else qN S)))) (wQ g cI S Qk)) := by
  refine g_body RX2 [(0, .ref (g 0))] kH_X2 rfl (Nat.le_of_ble_eq_true rfl) rfl ?_
  intro p e s m args below meth c A X hr hlk hmn Q hQ
  have hq2 := hq.2
  refine g_aload_n X 0 dX2_kept_0 rfl rfl ?_
  refine g_get X (C := RX2) (T := TX2) (N := 4) (v := .int (nI (qN S))) inlX2 0 rfl rfl 0 (Nat.le_of_ble_eq_true rfl) kF_X2_9 (congrArg (fun z => some (Value.int z)) (q_32 hq.1)) dX2_kept_1 ?_
  refine g_bipush X (v := nI 60) dX2_kept_4 (by decide +kernel) ?_
  refine g_mmin X (v := nI (if 60 < qN S then 60 else qN S)) kT_min kM_X2_25 kZ_Math kC_min (Nat.le_of_ble_eq_true rfl) (Nat.le_of_ble_eq_true rfl) (Nat.le_of_ble_eq_true rfl) (Nat.le_of_ble_eq_true rfl) (mn60 (by omega)) dX2_kept_6 ?_
  refine g_iret X hr hlk hQ dX2_kept_9 ?_
  show g_eq _ _ _ _
  exact ⟨rfl, rfl⟩
theorem hV_X2_add : yX2_add.cls = RX2 ∧ yX2_add.cls ≠ "java/lang/invoke/MethodHandle" ∧ yX2_add.cls ≠ "java/lang/invoke/VarHandle" ∧ (parseMethodDescriptor yX2_add.desc).map (fun d => d.parameters.length) = some 3 := by decide +kernel
abbrev rm_X2_add : Room := { frames := 0, cells := 0, slots := 0, locals := 0 }
set_option maxRecDepth 100000 in
set_option maxHeartbeats 4000000 in
theorem m_X2_add (l : Launch) (D : va_G) (cI cJ cZ : ClassId) (g : Nat → Nat) (S : St) (Qk : Nat → Int64) (b : Nat) (x : Int64) (hq : S 14 0 = lN (qN S) ∧ qN S ≤ 1000000) (hb : b < 12) : g_Ct l D cI cJ cZ yX2_add cX2_add 4 none rm_X2_add 0 0 [.ref (g 0), .int ((S 13 0).toInt32), .int (nI b), .int x.toInt32] (wQ g cI S Qk) (g_eq none (wQ g cI (u2 S 14 0 (S 14 0 + 1)) (addQ S Qk b x))) := by
  refine g_body RX2 [(0, .ref (g 0)), (1, .int ((S 13 0).toInt32)), (2, .int (nI b)), (3, .int x.toInt32)] kH_X2 rfl (Nat.le_of_ble_eq_true rfl) rfl ?_
  intro p e s m args below meth c A X hr hlk hmn Q hQ
  have hq2 := hq.2
  refine g_aload_n X 0 dX2_add_0 rfl rfl ?_
  refine g_get X (C := RX2) (T := TX2) (N := 4) (v := .int (nI (qN S))) inlX2 0 rfl rfl 0 (Nat.le_of_ble_eq_true rfl) kF_X2_9 (congrArg (fun z => some (Value.int z)) (q_32 hq.1)) dX2_add_1 ?_
  refine g_bipush X (v := nI 60) dX2_add_4 (by decide +kernel) ?_
  have J6 : ∀ (Qk5 : Nat → Int64), Qk5 = (if 60 ≤ qN S then Qk else (vp_updL (vp_updL (vp_updL Qk (3 * (qN S) + 0) (S 13 0)) (3 * (qN S) + 1) (lN b)) (3 * (qN S) + 2) x)) → g_G p l e rm_X2_add s m args below meth c D A 4 0 0 Q (wQ g cI S Qk5) [(0, .ref (g 0))] 39 [] := by
    intro Qk5 eQk5
    refine g_aload_n X 0 dX2_add_39 rfl rfl ?_
    refine g_dup X dX2_add_40 rfl ?_
    refine g_get X (C := RX2) (T := TX2) (N := 4) (v := .int ((S 14 0).toInt32)) inlX2 0 rfl rfl 0 (Nat.le_of_ble_eq_true rfl) kF_X2_9 rfl dX2_add_41 ?_
    refine g_iconst X (v := nI 1) dX2_add_44 (by decide +kernel) ?_
    refine g_iadd X (v := (S 14 0 + 1).toInt32) dX2_add_45 (by rw [Int64.toInt32_add]; rfl) ?_
    obtain ⟨S7, eS7⟩ : ∃ z : St, z = u2 S 14 0 (S 14 0 + 1) := ⟨_, rfl⟩
    refine g_put X (C := RX2) (T := TX2) (N := 4) (ws' := wQ g cI S7 Qk5) inlX2 tyX2 tyX2_ok nmX2 0 rfl rfl 0 (Nat.le_of_ble_eq_true rfl) kF_X2_9 rfl rfl rfl (Nat.le_of_ble_eq_true rfl) dX2_add_46 (by rw [eS7]; first | done | (rfl)) ?_
    refine g_vret X hr hlk hQ dX2_add_49 ?_
    show g_eq _ _ _ _
    try rw [eS7]
    try rw [eQk5]
    exact ⟨rfl, rfl⟩
  refine g_icN_ge X (a := qN S) (b := 60) (tgt := 39) (by omega) (by omega) dX2_add_6 (by decide) (fun h1 => ?_) (fun h1 => ?_)
  · --
    refine g_lv _ [0] rfl ?_
    exact J6 _ (by rw [if_pos (c := 60 ≤ qN S) h1])
  · --
    refine g_aload_n X 0 dX2_add_9 rfl rfl ?_
    refine g_get X (C := RX2) (T := TX2) (N := 4) (v := .ref (g 1)) inlX2 0 rfl rfl 1 (Nat.le_of_ble_eq_true rfl) kF_X2_15 rfl dX2_add_10 ?_
    refine g_aload_n X 0 dX2_add_13 rfl rfl ?_
    refine g_get X (C := RX2) (T := TX2) (N := 4) (v := .int (nI (qN S))) inlX2 0 rfl rfl 0 (Nat.le_of_ble_eq_true rfl) kF_X2_9 (congrArg (fun z => some (Value.int z)) (q_32 hq.1)) dX2_add_14 ?_
    refine g_iload_n X 1 dX2_add_17 rfl rfl ?_
    obtain ⟨Qk2, eQk2⟩ : ∃ z : Nat → Int64, z = vp_updL Qk (3 * (qN S) + 0) (S 13 0) := ⟨_, rfl⟩
    refine g_iast X (ws' := wQ g cI S Qk2) 1 rfl (qN S) rfl (by omega) (Nat.le_of_ble_eq_true rfl) dX2_add_18 (by rw [eQk2]; first | done | (exact wQ_0 rfl)) ?_
    refine g_aload_n X 0 dX2_add_19 rfl rfl ?_
    refine g_get X (C := RX2) (T := TX2) (N := 4) (v := .ref (g 2)) inlX2 0 rfl rfl 2 (Nat.le_of_ble_eq_true rfl) kF_X2_19 rfl dX2_add_20 ?_
    refine g_aload_n X 0 dX2_add_23 rfl rfl ?_
    refine g_get X (C := RX2) (T := TX2) (N := 4) (v := .int (nI (qN S))) inlX2 0 rfl rfl 0 (Nat.le_of_ble_eq_true rfl) kF_X2_9 (congrArg (fun z => some (Value.int z)) (q_32 hq.1)) dX2_add_24 ?_
    refine g_iload_n X 2 dX2_add_27 rfl rfl ?_
    obtain ⟨Qk3, eQk3⟩ : ∃ z : Nat → Int64, z = vp_updL Qk2 (3 * (qN S) + 1) (lN b) := ⟨_, rfl⟩
    refine g_iast X (ws' := wQ g cI S Qk3) 2 rfl (qN S) rfl (by omega) (Nat.le_of_ble_eq_true rfl) dX2_add_28 (by rw [eQk3]; first | done | (exact wQ_1 (lN_i _))) ?_
    refine g_aload_n X 0 dX2_add_29 rfl rfl ?_
    refine g_get X (C := RX2) (T := TX2) (N := 4) (v := .ref (g 3)) inlX2 0 rfl rfl 3 (Nat.le_of_ble_eq_true rfl) kF_X2_22 rfl dX2_add_30 ?_
    refine g_aload_n X 0 dX2_add_33 rfl rfl ?_
    refine g_get X (C := RX2) (T := TX2) (N := 4) (v := .int (nI (qN S))) inlX2 0 rfl rfl 0 (Nat.le_of_ble_eq_true rfl) kF_X2_9 (congrArg (fun z => some (Value.int z)) (q_32 hq.1)) dX2_add_34 ?_
    refine g_iload_n X 3 dX2_add_37 rfl rfl ?_
    obtain ⟨Qk4, eQk4⟩ : ∃ z : Nat → Int64, z = vp_updL Qk3 (3 * (qN S) + 2) x := ⟨_, rfl⟩
    refine g_iast X (ws' := wQ g cI S Qk4) 3 rfl (qN S) rfl (by omega) (Nat.le_of_ble_eq_true rfl) dX2_add_38 (by rw [eQk4]; first | done | (exact wQ_2 rfl)) ?_
    refine g_lv _ [0] rfl ?_
    exact J6 _ (by (try rw [eQk4]); (try rw [eQk3]); (try rw [eQk2]); rw [if_neg (c := 60 ≤ qN S) h1])
theorem hV_X2_tell : yX2_tell.cls = RX2 ∧ yX2_tell.cls ≠ "java/lang/invoke/MethodHandle" ∧ yX2_tell.cls ≠ "java/lang/invoke/VarHandle" ∧ (parseMethodDescriptor yX2_tell.desc).map (fun d => d.parameters.length) = some 2 := by decide +kernel
abbrev rm_X2_tell : Room := { frames := 0, cells := 0, slots := 0, locals := 0 }
set_option maxRecDepth 100000 in
set_option maxHeartbeats 4000000 in
theorem m_X2_tell (l : Launch) (D : va_G) (cI cJ cZ : ClassId) (g : Nat → Nat) (S : St) (Qk : Nat → Int64) (q k : Nat) (hq : q < 60) (hk : k < 3) : g_Ct l D cI cJ cZ yX2_tell cX2_tell 3 (some .int) rm_X2_tell 0 0 [.ref (g 0), .int (nI q), .int (nI k)] (wQ g cI S Qk) (g_eq (some (.int (tellQ Qk q k))) (wQ g cI S Qk)) := by
  refine g_body RX2 [(0, .ref (g 0)), (1, .int (nI q)), (2, .int (nI k))] kH_X2 rfl (Nat.le_of_ble_eq_true rfl) rfl ?_
  intro p e s m args below meth c A X hr hlk hmn Q hQ
  refine g_iload_n X 2 dX2_tell_0 rfl rfl ?_
  rcases (show k = 0 ∨ k = 1 ∨ k = 2 by omega) with rfl | rfl | rfl
  · --
    refine g_lsw X (tgt := 28) (off := 27) dX2_tell_1 (by decide +kernel) (by decide +kernel) (by decide) ?_
    refine g_aload_n X 0 dX2_tell_28 rfl rfl ?_
    refine g_get X (C := RX2) (T := TX2) (N := 4) (v := .ref (g 1)) inlX2 0 rfl rfl 1 (Nat.le_of_ble_eq_true rfl) kF_X2_15 rfl dX2_tell_29 ?_
    refine g_iload_n X 1 dX2_tell_32 rfl rfl ?_
    refine g_iald X 1 rfl (q) rfl (by omega) (Nat.le_of_ble_eq_true rfl) (v := (Qk (3 * q + 0)).toInt32) rfl dX2_tell_33 ?_
    refine g_iret X hr hlk hQ dX2_tell_34 ?_
    show g_eq _ _ _ _
    exact ⟨rfl, rfl⟩
  · --
    refine g_lsw X (tgt := 35) (off := 34) dX2_tell_1 (by decide +kernel) (by decide +kernel) (by decide) ?_
    refine g_aload_n X 0 dX2_tell_35 rfl rfl ?_
    refine g_get X (C := RX2) (T := TX2) (N := 4) (v := .ref (g 2)) inlX2 0 rfl rfl 2 (Nat.le_of_ble_eq_true rfl) kF_X2_19 rfl dX2_tell_36 ?_
    refine g_iload_n X 1 dX2_tell_39 rfl rfl ?_
    refine g_iald X 2 rfl (q) rfl (by omega) (Nat.le_of_ble_eq_true rfl) (v := (Qk (3 * q + 1)).toInt32) rfl dX2_tell_40 ?_
    refine g_iret X hr hlk hQ dX2_tell_41 ?_
    show g_eq _ _ _ _
    exact ⟨rfl, rfl⟩
  · --
    refine g_lsw X (tgt := 42) (off := 41) dX2_tell_1 (by decide +kernel) (by decide +kernel) (by decide) ?_
    refine g_aload_n X 0 dX2_tell_42 rfl rfl ?_
    refine g_get X (C := RX2) (T := TX2) (N := 4) (v := .ref (g 3)) inlX2 0 rfl rfl 3 (Nat.le_of_ble_eq_true rfl) kF_X2_22 rfl dX2_tell_43 ?_
    refine g_iload_n X 1 dX2_tell_46 rfl rfl ?_
    refine g_iald X 3 rfl (q) rfl (by omega) (Nat.le_of_ble_eq_true rfl) (v := (Qk (3 * q + 2)).toInt32) rfl dX2_tell_47 ?_
    refine g_iret X hr hlk hQ dX2_tell_48 ?_
    show g_eq _ _ _ _
    exact ⟨rfl, rfl⟩
/-- strain and quakes -/
def shS (b : Nat) (S : St) : St := u2 (if S 3 b ≤ 3000 then S else u2 S 14 0 (S 14 0 + 1)) 3 b ((if S 3 b ≤ 3000 then S 3 b else S 3 b / 2) - (if S 3 b ≤ 3000 then S 3 b else S 3 b / 2) / 10)
def shQ (S : St) (Qk : Nat → Int64) (n : Nat) : Nat → Int64 := itr (fun b Q => if itr shS S b 3 b ≤ 3000 then Q else addQ (itr shS S b) Q b (itr shS S b 3 b / 1000)) Qk n
theorem q_of {S : St} {n : Nat} (h : S 14 0 = lN n) (hn : n < 2 ^ 31) : S 14 0 = lN (qN S) ∧ qN S = n := by
  have : qN S = n := by
    unfold qN
    rw [h, lN_toInt hn]
    rfl
  rw [this]
  exact ⟨h, rfl⟩
theorem shk_q (S : St) (h : S 14 0 = lN (qN S) ∧ qN S ≤ 900000) : ∀ n, n ≤ 12 → itr shS S n 14 0 = lN (qN (itr shS S n)) ∧ qN (itr shS S n) ≤ qN S + n
  | 0, _ => ⟨h.1, Nat.le_refl _⟩
  | n + 1, hn => by
    obtain ⟨h1, h2⟩ := shk_q S h n (by omega)
    have hs := h.2
    have e : itr shS S (n + 1) 14 0 = (if itr shS S n 3 n ≤ 3000 then itr shS S n else u2 (itr shS S n) 14 0 (itr shS S n 14 0 + 1)) 14 0 := by
      show shS n (itr shS S n) 14 0 = _
      unfold shS
      rw [u2_c _ _ _ (by decide)]
    by_cases hc : itr shS S n 3 n ≤ 3000
    · rw [if_pos hc, h1] at e
      obtain ⟨a, b⟩ := q_of e (by omega)
      exact ⟨a, by omega⟩
    · rw [if_neg hc, u2_same, h1, lN_1] at e
      obtain ⟨a, b⟩ := q_of e (by omega)
      exact ⟨a, by omega⟩

theorem hV_X0_shake : yX0_shake.cls = RX0 ∧ yX0_shake.cls ≠ "java/lang/invoke/MethodHandle" ∧ yX0_shake.cls ≠ "java/lang/invoke/VarHandle" ∧ (parseMethodDescriptor yX0_shake.desc).map (fun d => d.parameters.length) = some 0 := by decide +kernel
abbrev rm_X0_shake : Room := { frames := 1, cells := 0, slots := 0, locals := 23 }
set_option maxRecDepth 100000 in
set_option maxHeartbeats 4000000 in
theorem m_X0_shake (l : Launch) (D : va_G) (cI cJ cZ : ClassId) (f : Nat → Nat) (C : Cf) (N : Nat → Nat) (S : St) (Qk : Nat → Int64) (Z : St) (hq : S 14 0 = lN (qN S) ∧ qN S ≤ 900000) : g_Ct l D cI cJ cZ yX0_shake cX0_shake 4 none rm_X0_shake 0 0 [.ref (f 0)] (wF f cI cJ cZ C N S Qk Z) (g_eq none (wF f cI cJ cZ C N (itr shS S 12) (shQ S Qk 12) Z)) := by
  refine g_body RX0 [(0, .ref (f 0))] kH_X0 rfl (Nat.le_of_ble_eq_true rfl) rfl ?_
  intro p e s m args below meth c A X hr hlk hmn Q hQ
  refine g_iconst X (v := nI 0) dX0_shake_0 (by decide +kernel) ?_
  refine g_istore_n X [(1, .int (nI 0)), (0, .ref (f 0))] dX0_shake_1 rfl (Nat.le_of_ble_eq_true rfl) rfl ?_
  have L1 : ∀ (n3 i2 : Nat) (S4 : St) (Qk5 : Nat → Int64), i2 + n3 = 12 → S4 = itr shS S i2 → Qk5 = shQ S Qk i2 → g_G p l e rm_X0_shake s m args below meth c D A 4 0 0 Q (wF f cI cJ cZ C N S4 Qk5 Z) [(0, .ref (f 0)), (1, .int (nI i2))] 2 [] := by
    intro n3
    induction n3 with
    | zero =>
      intro i2 S4 Qk5 hi6 eS4 eQk5
      obtain rfl : i2 = 12 := by omega
      have hs := shk_q S hq 12 (by omega)
      rw [← eS4] at hs
      have hq2 := hq.2
      have hs2 := hs.2
      refine g_iload_n X 1 dX0_shake_2 rfl rfl ?_
      refine g_bipush X (v := nI 12) dX0_shake_3 (by decide +kernel) ?_
      refine g_icN_ge X (a := 12) (b := 12) (tgt := 72) (by omega) (by omega) dX0_shake_5 (by decide) (fun h7 => ?_) (fun h7 => absurd h7 (by omega))
      refine g_vret X hr hlk hQ dX0_shake_72 ?_
      show g_eq _ _ _ _
      try rw [eQk5]
      try rw [eS4]
      exact ⟨rfl, rfl⟩
    | succ n3 ihL1 =>
      intro i2 S4 Qk5 hi6 eS4 eQk5
      have hlti2 : i2 < 12 := by omega
      have hs := shk_q S hq i2 (by omega)
      rw [← eS4] at hs
      have hq2 := hq.2
      have hs2 := hs.2
      refine g_iload_n X 1 dX0_shake_2 rfl rfl ?_
      refine g_bipush X (v := nI 12) dX0_shake_3 (by decide +kernel) ?_
      refine g_icN_ge X (a := i2) (b := 12) (tgt := 72) (by omega) (by omega) dX0_shake_5 (by decide) (fun h8 => absurd h8 (by omega)) (fun h8 => ?_)
      refine g_aload_n X 0 dX0_shake_8 rfl rfl ?_
      refine g_get X (C := RX0) (T := TX0) (N := 11) (v := .ref (f 1)) inlX0 0 rfl rfl 2 (Nat.le_of_ble_eq_true rfl) kF_X0_21 rfl dX0_shake_9 ?_
      refine g_get X (C := RX1) (T := TX1) (N := 9) (v := .ref (f 5)) inlX1 1 rfl rfl 3 (Nat.le_of_ble_eq_true rfl) kF_X0_216 rfl dX0_shake_12 ?_
      refine g_iload_n X 1 dX0_shake_15 rfl rfl ?_
      refine g_lald X 5 rfl (i2) rfl (by omega) (Nat.le_of_ble_eq_true rfl) (v := S4 3 i2) rfl dX0_shake_16 ?_
      refine g_lstore_n X [(2, .long (S4 3 i2)), (0, .ref (f 0)), (1, .int (nI i2))] dX0_shake_17 rfl (Nat.le_of_ble_eq_true rfl) rfl ?_
      refine g_lload_n X 0 dX0_shake_18 rfl rfl ?_
      refine g_ldc2 X kL_X0_224 dX0_shake_19 ?_
      have J15 : ∀ (S12 : St) (Qk13 : Nat → Int64) (v14 : Int64), S12 = (if (S4 3 i2) ≤ (3000 : Int64) then S4 else (u2 S4 14 0 (S4 14 0 + 1))) → Qk13 = (if (S4 3 i2) ≤ (3000 : Int64) then Qk5 else (addQ S4 Qk5 i2 ((S4 3 i2) / (1000 : Int64)))) → v14 = (if (S4 3 i2) ≤ (3000 : Int64) then S4 3 i2 else (S4 3 i2) / (2 : Int64)) → g_G p l e rm_X0_shake s m args below meth c D A 4 0 0 Q (wF f cI cJ cZ C N S12 Qk13 Z) [(0, .ref (f 0)), (1, .int (nI i2)), (2, .long v14)] 50 [] := by
        intro S12 Qk13 v14 eS12 eQk13 ev14
        refine g_aload_n X 0 dX0_shake_50 rfl rfl ?_
        refine g_get X (C := RX0) (T := TX0) (N := 11) (v := .ref (f 1)) inlX0 0 rfl rfl 2 (Nat.le_of_ble_eq_true rfl) kF_X0_21 rfl dX0_shake_51 ?_
        refine g_get X (C := RX1) (T := TX1) (N := 9) (v := .ref (f 5)) inlX1 1 rfl rfl 3 (Nat.le_of_ble_eq_true rfl) kF_X0_216 rfl dX0_shake_54 ?_
        refine g_iload_n X 1 dX0_shake_57 rfl rfl ?_
        refine g_lload_n X 2 dX0_shake_58 rfl rfl ?_
        refine g_lload_n X 2 dX0_shake_59 rfl rfl ?_
        refine g_ldc2 X kL_X0_158 dX0_shake_60 ?_
        refine g_ldiv X (v := v14 / (10 : Int64)) dX0_shake_63 (by decide +kernel) rfl ?_
        refine g_lsub X (v := v14 - (v14 / (10 : Int64))) dX0_shake_64 rfl ?_
        obtain ⟨S16, eS16⟩ : ∃ z : St, z = u2 S12 3 i2 (v14 - (v14 / (10 : Int64))) := ⟨_, rfl⟩
        refine g_last X (ws' := wF f cI cJ cZ C N S16 Qk13 Z) 5 rfl (i2) rfl (by omega) (Nat.le_of_ble_eq_true rfl) dX0_shake_65 (by rw [eS16]; first | done | (rfl)) ?_
        refine g_iinc X [(1, .int (nI (i2 + 1))), (0, .ref (f 0)), (2, .long v14)] (q := 1) (v := nI (i2 + 1)) dX0_shake_66 rfl ((congrArg (fun z => nI (i2) + z) (show Int32.ofInt 1 = nI 1 by decide +kernel)).trans ((nI_add _ _).trans (congrArg nI (by omega)))) (Nat.le_of_ble_eq_true rfl) rfl ?_
        refine g_goto X (tgt := 2) dX0_shake_69 (by decide) ?_
        refine g_lv _ [1, 0] rfl ?_
        exact ihL1 (i2 + 1) _ _ (by omega) (by (try rw [eS16]); (try rw [ev14]); (try rw [eQk13]); (try rw [eS12]); (try rw [eQk5]); (try rw [eS4]); first | done | (rfl)) (by (try rw [eS16]); (try rw [ev14]); (try rw [eQk13]); (try rw [eS12]); (try rw [eQk5]); (try rw [eS4]); first | done | (rfl))
      refine g_lj_le X (tgt := 50) (pc1 := 23) dX0_shake_22 rfl dX0_shake_23 (by decide) (fun h9 => ?_) (fun h9 => ?_)
      · --
        refine g_lv _ [1, 2, 0] rfl ?_
        exact J15 _ _ _ (by rw [if_pos (c := (S4 3 i2) ≤ (3000 : Int64)) h9]) (by rw [if_pos (c := (S4 3 i2) ≤ (3000 : Int64)) h9]) (by rw [if_pos (c := (S4 3 i2) ≤ (3000 : Int64)) h9])
      · --
        refine g_aload_n X 1 dX0_shake_26 rfl rfl ?_
        refine g_get X (C := RX0) (T := TX0) (N := 11) (v := .ref (f 30)) inlX0 0 rfl rfl 6 (Nat.le_of_ble_eq_true rfl) kF_X0_49 rfl dX0_shake_27 ?_
        refine g_aload_n X 1 dX0_shake_30 rfl rfl ?_
        refine g_get X (C := RX0) (T := TX0) (N := 11) (v := .int ((S4 13 0).toInt32)) inlX0 0 rfl rfl 0 (Nat.le_of_ble_eq_true rfl) kF_X0_9 rfl dX0_shake_31 ?_
        refine g_iload_n X 2 dX0_shake_34 rfl rfl ?_
        refine g_lload_n X 0 dX0_shake_35 rfl rfl ?_
        refine g_ldc2 X kL_X0_226 dX0_shake_36 ?_
        refine g_ldiv X (v := (S4 3 i2) / (1000 : Int64)) dX0_shake_39 (by decide +kernel) rfl ?_
        refine g_l2i X (v := ((S4 3 i2) / (1000 : Int64)).toInt32) dX0_shake_40 rfl ?_
        obtain ⟨S10, eS10⟩ : ∃ z : St, z = u2 S4 14 0 (S4 14 0 + 1) := ⟨_, rfl⟩
        obtain ⟨Qk11, eQk11⟩ : ∃ z : Nat → Int64, z = addQ S4 Qk5 i2 ((S4 3 i2) / (1000 : Int64)) := ⟨_, rfl⟩
        refine g_callV X (As := [.int ((S4 13 0).toInt32), .int (nI i2), .int (((S4 3 i2) / (1000 : Int64)).toInt32)]) (rest := []) (m_X2_add l D cI cJ cZ (fun i => f (30 + i)) S4 Qk5 i2 ((S4 3 i2) / (1000 : Int64)) ⟨hs.1, by omega⟩ (by omega)) kM_X0_228 kI_yX2_add kS_yX2_add kZ_RX2 kC_yX2_add hV_X2_add rfl rfl rfl 0 rfl (ci := 2) rfl ⟨Nat.le_of_ble_eq_true rfl, Nat.le_of_ble_eq_true rfl⟩ ⟨Nat.le_of_ble_eq_true rfl, Nat.le_of_ble_eq_true rfl⟩ (Nat.le_of_ble_eq_true rfl) dX0_shake_41 rfl (em_I 30 4 34 0) (em_C (by decide) (Nat.le_of_ble_eq_true rfl) rfl) (em_nd (by decide)) (g_kk1 (w2 := wF f cI cJ cZ C N S10 Qk11 Z) (by rw [eQk11]; rw [eS10]; exact (em3 30 4 34 0 (by decide) (Nat.le_of_ble_eq_true rfl) rfl rfl rfl)) ?_)
        refine g_lload_n X 0 dX0_shake_44 rfl rfl ?_
        refine g_ldc2 X kL_X0_222 dX0_shake_45 ?_
        refine g_ldiv X (v := (S4 3 i2) / (2 : Int64)) dX0_shake_48 (by decide +kernel) rfl ?_
        refine g_lstore_n X [(2, .long ((S4 3 i2) / (2 : Int64))), (0, .ref (f 0)), (1, .int (nI i2))] dX0_shake_49 rfl (Nat.le_of_ble_eq_true rfl) rfl ?_
        refine g_lv _ [1, 2, 0] rfl ?_
        exact J15 _ _ _ (by (try rw [eQk11]); (try rw [eS10]); rw [if_neg (c := (S4 3 i2) ≤ (3000 : Int64)) h9]) (by (try rw [eQk11]); (try rw [eS10]); rw [if_neg (c := (S4 3 i2) ≤ (3000 : Int64)) h9]) (by (try rw [eQk11]); (try rw [eS10]); rw [if_neg (c := (S4 3 i2) ≤ (3000 : Int64)) h9])
  refine g_lv _ [1, 0] rfl ?_
  exact L1 (12) 0 _ _ (by omega) (by first | rfl | (first | done | rfl)) (by first | rfl | (first | done | rfl))
/-- rain and warmth -/
def rnS (C : Cf) (b : Nat) (S : St) : St := if b < 8 then S else u2 (takeS S b (C 10 0).toInt64 80) 12 4 (S 12 4 + (C 10 0).toInt64)
def raS (C : Cf) (b : Nat) (S : St) : St := warmS (rnS C b S) b
def Rok (C : Cf) : Prop := 0 ≤ (C 10 0).toInt ∧ (C 10 0).toInt ≤ 500
theorem warm_c {S : St} {b c : Nat} (h : ¬ c = 1) : warmS S b c = S c := by
  unfold warmS
  split
  · rfl
  · exact u2_c _ _ _ h
theorem rn_0 {C : Cf} {S : St} {b j : Nat} : rnS C b S 0 j = if 8 ≤ b ∧ j = b then S 0 b + (C 10 0).toInt64 else S 0 j := by
  unfold rnS takeS
  by_cases h : b < 8
  · rw [if_pos h, if_neg (by omega)]
  · rw [if_neg h, u2_c _ _ _ (by decide), u2_c _ _ _ (by decide), u2_ap]
    by_cases hj : j = b
    · rw [if_pos ⟨rfl, hj⟩, if_pos ⟨by omega, hj⟩]
    · rw [if_neg (fun z => hj z.2), if_neg (fun z => hj z.2)]
theorem ra_0 {C : Cf} {S : St} : ∀ n, ∀ j, itr (raS C) S n 0 j = if 8 ≤ j ∧ j < n then S 0 j + (C 10 0).toInt64 else S 0 j
  | 0, j => (if_neg (by omega)).symm
  | n + 1, j => by
    show warmS (rnS C n (itr (raS C) S n)) n 0 j = _
    rw [warm_c (by decide), rn_0, ra_0 n, ra_0 n]
    by_cases h1 : 8 ≤ n ∧ j = n
    · obtain ⟨h1, rfl⟩ := h1
      rw [if_pos ⟨h1, rfl⟩, if_neg (by omega), if_pos (by omega)]
    · rw [if_neg h1]
      by_cases h2 : 8 ≤ j ∧ j < n
      · rw [if_pos h2, if_pos (by omega)]
      · rw [if_neg h2, if_neg (by omega)]
theorem ra_ok (C : Cf) (S : St) (k : Int) (hR : Rok C) (hW : Wk k S) (h0 : 0 ≤ k) (hk : k + 500 ≤ 1099511627776) : ∀ n, n ≤ 12 → Wk (k + 500) (itr (raS C) S n) ∧ (n < 12 → Wk (k + 500) (rnS C n (itr (raS C) S n))) := by
  intro n hn
  have hr : 0 ≤ ((C 10 0).toInt64).toInt ∧ ((C 10 0).toInt64).toInt ≤ 500 := by
    rw [Int32.toInt_toInt64]
    exact hR
  refine ⟨fun b hb => ?_, fun hn2 b hb => ?_⟩
  · rw [ra_0 n]
    have := hW b hb
    split
    · rw [z_add (by omega) (by omega)]
      omega
    · omega
  · rw [rn_0, ra_0 n, ra_0 n]
    have := hW b hb
    by_cases h1 : 8 ≤ n ∧ b = n
    · obtain ⟨h1, rfl⟩ := h1
      rw [if_pos ⟨h1, rfl⟩, if_neg (by omega), z_add (by omega) (by omega)]
      omega
    · rw [if_neg h1]
      split
      · rw [z_add (by omega) (by omega)]
        omega
      · omega
/-- springs -/
def feG (C : Cf) (S : St) (k : Nat) : Int64 := if S 0 (spN C k) < (C 8 k).toInt64 then 0 else (if 50 < S 0 (spN C k) / 100 then 50 else S 0 (spN C k) / 100)
def feS (C : Cf) (k : Nat) (S : St) : St := u2 (noteS (giveS S (spN C k) (feG C S k)) k (feG C S k)) 12 3 (noteS (giveS S (spN C k) (feG C S k)) k (feG C S k) 12 3 + feG C S k)
theorem clr_c {k : Nat} {S : St} {n c : Nat} (h : ¬ c = 11) : clrS k S n c = S c := by
  unfold clrS
  exact itr_c (fun n T => u2_c _ _ _ h) S n
theorem note_c {S : St} {k : Nat} {x : Int64} {c : Nat} (h9 : ¬ c = 9) (h10 : ¬ c = 10) (h11 : ¬ c = 11) : noteS S k x c = S c := by
  unfold noteS
  split
  · rw [u2_c _ _ _ h10, u2_c _ _ _ h9]
  · rw [clr_c h11, u2_c _ _ _ h10, u2_c _ _ _ h9]
theorem feG_ok {C : Cf} {S : St} {k : Nat} (h : 0 ≤ (S 0 (spN C k)).toInt) : 0 ≤ (feG C S k).toInt ∧ (feG C S k).toInt ≤ (S 0 (spN C k)).toInt ∧ (feG C S k).toInt ≤ 50 := by
  have h2 : (S 0 (spN C k) / 100).toInt = (S 0 (spN C k)).toInt / 100 := dv_ok h (by decide) (by decide)
  have h50 : (50 : Int64).toInt = 50 := rfl
  have hz : (0 : Int64).toInt = 0 := rfl
  unfold feG
  split
  · omega
  · split
    · rename_i h3
      rw [z_lt] at h3
      omega
    · rename_i h3
      rw [z_lt] at h3
      omega
theorem fe_0 {C : Cf} {S : St} {k j : Nat} : feS C k S 0 j = if j = spN C k then S 0 (spN C k) - feG C S k else S 0 j := by
  unfold feS
  rw [u2_c _ _ _ (by decide), note_c (by decide) (by decide) (by decide), giveS_0]
theorem fe_ok (C : Cf) (N : Nat → Nat) (S : St) (k : Int) (hC : Cok C N) (hW : Wk k S) (hk : k ≤ 1099511627776) : ∀ n, n ≤ N 2 → Wk k (itr (feS C) S n)
  | 0, _ => hW
  | n + 1, hn => by
    have ih := fe_ok C N S k hC hW hk n (by omega)
    have hs := (hC.sp (show n < N 2 from hn)).2
    have hg := feG_ok (C := C) (k := n) (ih _ hs).1
    have hb0 := ih _ hs
    intro b hb
    show 0 ≤ (feS C n (itr (feS C) S n) 0 b).toInt ∧ _
    have e : itr (feS C) S (n + 1) 0 b = feS C n (itr (feS C) S n) 0 b := rfl
    rw [e, fe_0]
    split
    · rw [z_sub (by omega) (by omega)]
      omega
    · exact ih b hb

theorem hV_X0_rainAndWarm : yX0_rainAndWarm.cls = RX0 ∧ yX0_rainAndWarm.cls ≠ "java/lang/invoke/MethodHandle" ∧ yX0_rainAndWarm.cls ≠ "java/lang/invoke/VarHandle" ∧ (parseMethodDescriptor yX0_rainAndWarm.desc).map (fun d => d.parameters.length) = some 0 := by decide +kernel
abbrev rm_X0_rainAndWarm : Room := { frames := 2, cells := 0, slots := 0, locals := 46 }
set_option maxRecDepth 100000 in
set_option maxHeartbeats 4000000 in
theorem m_X0_rainAndWarm (l : Launch) (D : va_G) (cI cJ cZ : ClassId) (f : Nat → Nat) (C : Cf) (N : Nat → Nat) (S : St) (Qk : Nat → Int64) (Z : St) (k : Int) (hR : Rok C) (hW : Wk k S) (h0 : 0 ≤ k) (hk : k + 500 ≤ 1099511627776) : g_Ct l D cI cJ cZ yX0_rainAndWarm cX0_rainAndWarm 2 none rm_X0_rainAndWarm 0 0 [.ref (f 0)] (wF f cI cJ cZ C N S Qk Z) (g_eq none (wF f cI cJ cZ C N (itr (raS C) S 12) Qk Z)) := by
  refine g_body RX0 [(0, .ref (f 0))] kH_X0 rfl (Nat.le_of_ble_eq_true rfl) rfl ?_
  intro p e s m args below meth c A X hr hlk hmn Q hQ
  refine g_iconst X (v := nI 0) dX0_rainAndWarm_0 (by decide +kernel) ?_
  refine g_istore_n X [(1, .int (nI 0)), (0, .ref (f 0))] dX0_rainAndWarm_1 rfl (Nat.le_of_ble_eq_true rfl) rfl ?_
  have L1 : ∀ (n3 i2 : Nat) (S4 : St), i2 + n3 = 12 → S4 = itr (raS C) S i2 → g_G p l e rm_X0_rainAndWarm s m args below meth c D A 2 0 0 Q (wF f cI cJ cZ C N S4 Qk Z) [(0, .ref (f 0)), (1, .int (nI i2))] 2 [] := by
    intro n3
    induction n3 with
    | zero =>
      intro i2 S4 hi5 eS4
      obtain rfl : i2 = 12 := by omega
      have hD := ra_ok C S k hR hW h0 hk 12 (by omega)
      rw [← eS4] at hD
      refine g_iload_n X 1 dX0_rainAndWarm_2 rfl rfl ?_
      refine g_bipush X (v := nI 12) dX0_rainAndWarm_3 (by decide +kernel) ?_
      refine g_icN_ge X (a := 12) (b := 12) (tgt := 58) (by omega) (by omega) dX0_rainAndWarm_5 (by decide) (fun h6 => ?_) (fun h6 => absurd h6 (by omega))
      refine g_vret X hr hlk hQ dX0_rainAndWarm_58 ?_
      show g_eq _ _ _ _
      try rw [eS4]
      exact ⟨rfl, rfl⟩
    | succ n3 ihL1 =>
      intro i2 S4 hi5 eS4
      have hlti2 : i2 < 12 := by omega
      have hD := ra_ok C S k hR hW h0 hk i2 (by omega)
      rw [← eS4] at hD
      refine g_iload_n X 1 dX0_rainAndWarm_2 rfl rfl ?_
      refine g_bipush X (v := nI 12) dX0_rainAndWarm_3 (by decide +kernel) ?_
      refine g_icN_ge X (a := i2) (b := 12) (tgt := 58) (by omega) (by omega) dX0_rainAndWarm_5 (by decide) (fun h7 => absurd h7 (by omega)) (fun h7 => ?_)
      refine g_iload_n X 1 dX0_rainAndWarm_8 rfl rfl ?_
      refine g_bipush X (v := nI 8) dX0_rainAndWarm_9 (by decide +kernel) ?_
      have J12 : ∀ (S11 : St), S11 = (if i2 < 8 then S4 else (u2 (takeS S4 i2 ((C 10 0).toInt64) (80 : Int64)) 12 4 (((takeS S4 i2 ((C 10 0).toInt64) (80 : Int64)) 12 4) + ((C 10 0).toInt64)))) → g_G p l e rm_X0_rainAndWarm s m args below meth c D A 2 0 0 Q (wF f cI cJ cZ C N S11 Qk Z) [(0, .ref (f 0)), (1, .int (nI i2))] 44 [] := by
        intro S11 eS11
        refine g_aload_n X 0 dX0_rainAndWarm_44 rfl rfl ?_
        refine g_get X (C := RX0) (T := TX0) (N := 11) (v := .ref (f 1)) inlX0 0 rfl rfl 2 (Nat.le_of_ble_eq_true rfl) kF_X0_21 rfl dX0_rainAndWarm_45 ?_
        refine g_iload_n X 1 dX0_rainAndWarm_48 rfl rfl ?_
        obtain ⟨S13, eS13⟩ : ∃ z : St, z = warmS S11 i2 := ⟨_, rfl⟩
        refine g_callV X (As := [.int (nI i2)]) (rest := []) (m_X1_warm l D cI cJ cZ (fun i => f (1 + i)) C S11 Z i2 (by omega) (by (try rw [eS11]); exact (hD.2 (by omega)).ok hk)) kM_X0_234 kI_yX1_warm kS_yX1_warm kZ_RX1 kC_yX1_warm hV_X1_warm rfl rfl rfl 0 rfl (ci := 1) rfl ⟨Nat.le_of_ble_eq_true rfl, Nat.le_of_ble_eq_true rfl⟩ ⟨Nat.le_of_ble_eq_true rfl, Nat.le_of_ble_eq_true rfl⟩ (Nat.le_of_ble_eq_true rfl) dX0_rainAndWarm_49 rfl (em_I 1 10 11 0) (em_C (by decide) (Nat.le_of_ble_eq_true rfl) rfl) (em_nd (by decide)) (g_kk1 (w2 := wF f cI cJ cZ C N S13 Qk Z) (by rw [eS13]; exact (em3 1 10 11 0 (by decide) (Nat.le_of_ble_eq_true rfl) rfl rfl (by rw [wF_g (S' := warmS S11 i2) (S := S11) (fun c h => warm_oth _ _ h)]; rfl))) ?_)
        refine g_iinc X [(1, .int (nI (i2 + 1))), (0, .ref (f 0))] (q := 1) (v := nI (i2 + 1)) dX0_rainAndWarm_52 rfl ((congrArg (fun z => nI (i2) + z) (show Int32.ofInt 1 = nI 1 by decide +kernel)).trans ((nI_add _ _).trans (congrArg nI (by omega)))) (Nat.le_of_ble_eq_true rfl) rfl ?_
        refine g_goto X (tgt := 2) dX0_rainAndWarm_55 (by decide) ?_
        refine g_lv _ [1, 0] rfl ?_
        exact ihL1 (i2 + 1) _ (by omega) (by (try rw [eS13]); (try rw [eS11]); (try rw [eS4]); first | done | (rfl))
      refine g_icN_lt X (a := i2) (b := 8) (tgt := 44) (by omega) (by omega) dX0_rainAndWarm_11 (by decide) (fun h8 => ?_) (fun h8 => ?_)
      · --
        exact J12 _ (by rw [if_pos (c := i2 < 8) h8])
      · --
        refine g_aload_n X 0 dX0_rainAndWarm_14 rfl rfl ?_
        refine g_get X (C := RX0) (T := TX0) (N := 11) (v := .ref (f 1)) inlX0 0 rfl rfl 2 (Nat.le_of_ble_eq_true rfl) kF_X0_21 rfl dX0_rainAndWarm_15 ?_
        refine g_iload_n X 1 dX0_rainAndWarm_18 rfl rfl ?_
        refine g_aload_n X 0 dX0_rainAndWarm_19 rfl rfl ?_
        refine g_get X (C := RX0) (T := TX0) (N := 11) (v := .int (C 10 0)) inlX0 0 rfl rfl 1 (Nat.le_of_ble_eq_true rfl) kF_X0_15 rfl dX0_rainAndWarm_20 ?_
        refine g_i2l X (v := (C 10 0).toInt64) dX0_rainAndWarm_23 rfl ?_
        refine g_ldc2 X kL_X0_232 dX0_rainAndWarm_24 ?_
        obtain ⟨S9, eS9⟩ : ∃ z : St, z = takeS S4 i2 ((C 10 0).toInt64) (80 : Int64) := ⟨_, rfl⟩
        refine g_callV X (As := [.int (nI i2), .long ((C 10 0).toInt64), .long (80 : Int64)]) (rest := []) (m_X1_take l D cI cJ cZ (fun i => f (1 + i)) C S4 Z i2 ((C 10 0).toInt64) (80 : Int64) (by omega)) kM_X0_212 kI_yX1_take kS_yX1_take kZ_RX1 kC_yX1_take hV_X1_take rfl rfl rfl 0 rfl (ci := 1) rfl ⟨Nat.le_of_ble_eq_true rfl, Nat.le_of_ble_eq_true rfl⟩ ⟨Nat.le_of_ble_eq_true rfl, Nat.le_of_ble_eq_true rfl⟩ (Nat.le_of_ble_eq_true rfl) dX0_rainAndWarm_27 rfl (em_I 1 10 11 0) (em_C (by decide) (Nat.le_of_ble_eq_true rfl) rfl) (em_nd (by decide)) (g_kk1 (w2 := wF f cI cJ cZ C N S9 Qk Z) (by rw [eS9]; exact (em3 1 10 11 0 (by decide) (Nat.le_of_ble_eq_true rfl) rfl rfl rfl)) ?_)
        refine g_aload_n X 0 dX0_rainAndWarm_30 rfl rfl ?_
        refine g_get X (C := RX0) (T := TX0) (N := 11) (v := .ref (f 34)) inlX0 0 rfl rfl 7 (Nat.le_of_ble_eq_true rfl) kF_X0_53 rfl dX0_rainAndWarm_31 ?_
        refine g_iconst X (v := nI 4) dX0_rainAndWarm_34 (by decide +kernel) ?_
        refine g_dup2_11 X dX0_rainAndWarm_35 rfl rfl ?_
        refine g_lald X 34 rfl (4) rfl (by omega) (Nat.le_of_ble_eq_true rfl) (v := S9 12 4) rfl dX0_rainAndWarm_36 ?_
        refine g_aload_n X 0 dX0_rainAndWarm_37 rfl rfl ?_
        refine g_get X (C := RX0) (T := TX0) (N := 11) (v := .int (C 10 0)) inlX0 0 rfl rfl 1 (Nat.le_of_ble_eq_true rfl) kF_X0_15 rfl dX0_rainAndWarm_38 ?_
        refine g_i2l X (v := (C 10 0).toInt64) dX0_rainAndWarm_41 rfl ?_
        refine g_ladd X (v := (S9 12 4) + ((C 10 0).toInt64)) dX0_rainAndWarm_42 rfl ?_
        obtain ⟨S10, eS10⟩ : ∃ z : St, z = u2 S9 12 4 ((S9 12 4) + ((C 10 0).toInt64)) := ⟨_, rfl⟩
        refine g_last X (ws' := wF f cI cJ cZ C N S10 Qk Z) 34 rfl (4) rfl (by omega) (Nat.le_of_ble_eq_true rfl) dX0_rainAndWarm_43 (by rw [eS10]; first | done | (rfl)) ?_
        exact J12 _ (by (try rw [eS10]); (try rw [eS9]); rw [if_neg (c := i2 < 8) h8])
  refine g_lv _ [1, 0] rfl ?_
  exact L1 (12) 0 _ (by omega) (by first | rfl | (first | done | rfl))
theorem hV_X0_feedSprings : yX0_feedSprings.cls = RX0 ∧ yX0_feedSprings.cls ≠ "java/lang/invoke/MethodHandle" ∧ yX0_feedSprings.cls ≠ "java/lang/invoke/VarHandle" ∧ (parseMethodDescriptor yX0_feedSprings.desc).map (fun d => d.parameters.length) = some 0 := by decide +kernel
abbrev rm_X0_feedSprings : Room := { frames := 2, cells := 0, slots := 0, locals := 48 }
set_option maxRecDepth 100000 in
set_option maxHeartbeats 4000000 in
theorem m_X0_feedSprings (l : Launch) (D : va_G) (cI cJ cZ : ClassId) (f : Nat → Nat) (C : Cf) (N : Nat → Nat) (S : St) (Qk : Nat → Int64) (Z : St) (k : Int) (hC : Cok C N) (hW : Wk k S) (hk : k ≤ 1099511627776) : g_Ct l D cI cJ cZ yX0_feedSprings cX0_feedSprings 7 none rm_X0_feedSprings 0 0 [.ref (f 0)] (wF f cI cJ cZ C N S Qk Z) (g_eq none (wF f cI cJ cZ C N (itr (feS C) S (N 2)) Qk Z)) := by
  refine g_body RX0 [(0, .ref (f 0))] kH_X0 rfl (Nat.le_of_ble_eq_true rfl) rfl ?_
  intro p e s m args below meth c A X hr hlk hmn Q hQ
  have hN0 := hC.n0
  have hN1 := hC.n1
  have hN2 := hC.n2
  refine g_iconst X (v := nI 0) dX0_feedSprings_0 (by decide +kernel) ?_
  refine g_istore_n X [(1, .int (nI 0)), (0, .ref (f 0))] dX0_feedSprings_1 rfl (Nat.le_of_ble_eq_true rfl) rfl ?_
  have L1 : ∀ (n3 i2 : Nat) (S4 : St), i2 + n3 = (N 2) → S4 = itr (feS C) S i2 → g_G p l e rm_X0_feedSprings s m args below meth c D A 7 0 0 Q (wF f cI cJ cZ C N S4 Qk Z) [(0, .ref (f 0)), (1, .int (nI i2))] 2 [] := by
    intro n3
    induction n3 with
    | zero =>
      intro i2 S4 hi5 eS4
      obtain rfl : i2 = (N 2) := by omega
      have hD := (fe_ok C N S k hC hW hk (N 2) (by omega)).ok hk
      rw [← eS4] at hD
      refine g_iload_n X 1 dX0_feedSprings_2 rfl rfl ?_
      refine g_aload_n X 0 dX0_feedSprings_3 rfl rfl ?_
      refine g_get X (C := RX0) (T := TX0) (N := 11) (v := .ref (f 23)) inlX0 0 rfl rfl 5 (Nat.le_of_ble_eq_true rfl) kF_X0_42 rfl dX0_feedSprings_4 ?_
      refine g_get X (C := RX3) (T := TX3) (N := 7) (v := .int (nI (N 2))) inlX3 23 rfl rfl 0 (Nat.le_of_ble_eq_true rfl) kF_X0_132 rfl dX0_feedSprings_7 ?_
      refine g_icN_ge X (a := (N 2)) (b := N 2) (tgt := 103) (by omega) (by omega) dX0_feedSprings_10 (by decide) (fun h6 => ?_) (fun h6 => absurd h6 (by omega))
      refine g_vret X hr hlk hQ dX0_feedSprings_103 ?_
      show g_eq _ _ _ _
      try rw [eS4]
      exact ⟨rfl, rfl⟩
    | succ n3 ihL1 =>
      intro i2 S4 hi5 eS4
      have hlti2 : i2 < (N 2) := by omega
      have hD := (fe_ok C N S k hC hW hk i2 (by omega)).ok hk
      rw [← eS4] at hD
      refine g_iload_n X 1 dX0_feedSprings_2 rfl rfl ?_
      refine g_aload_n X 0 dX0_feedSprings_3 rfl rfl ?_
      refine g_get X (C := RX0) (T := TX0) (N := 11) (v := .ref (f 23)) inlX0 0 rfl rfl 5 (Nat.le_of_ble_eq_true rfl) kF_X0_42 rfl dX0_feedSprings_4 ?_
      refine g_get X (C := RX3) (T := TX3) (N := 7) (v := .int (nI (N 2))) inlX3 23 rfl rfl 0 (Nat.le_of_ble_eq_true rfl) kF_X0_132 rfl dX0_feedSprings_7 ?_
      refine g_icN_ge X (a := i2) (b := N 2) (tgt := 103) (by omega) (by omega) dX0_feedSprings_10 (by decide) (fun h7 => absurd h7 (by omega)) (fun h7 => ?_)
      refine g_aload_n X 0 dX0_feedSprings_13 rfl rfl ?_
      refine g_get X (C := RX0) (T := TX0) (N := 11) (v := .ref (f 23)) inlX0 0 rfl rfl 5 (Nat.le_of_ble_eq_true rfl) kF_X0_42 rfl dX0_feedSprings_14 ?_
      refine g_get X (C := RX3) (T := TX3) (N := 7) (v := .ref (f 24)) inlX3 23 rfl rfl 1 (Nat.le_of_ble_eq_true rfl) kF_X0_140 rfl dX0_feedSprings_17 ?_
      refine g_iload_n X 1 dX0_feedSprings_20 rfl rfl ?_
      refine g_iald X 24 rfl (i2) rfl (by omega) (Nat.le_of_ble_eq_true rfl) (v := nI (spN C i2)) (hC.sp (by omega)).1 dX0_feedSprings_21 ?_
      refine g_istore_n X [(2, .int (nI (spN C i2))), (0, .ref (f 0)), (1, .int (nI i2))] dX0_feedSprings_22 rfl (Nat.le_of_ble_eq_true rfl) rfl ?_
      refine g_aload_n X 1 dX0_feedSprings_23 rfl rfl ?_
      refine g_get X (C := RX0) (T := TX0) (N := 11) (v := .ref (f 1)) inlX0 0 rfl rfl 2 (Nat.le_of_ble_eq_true rfl) kF_X0_21 rfl dX0_feedSprings_24 ?_
      refine g_get X (C := RX1) (T := TX1) (N := 9) (v := .ref (f 2)) inlX1 1 rfl rfl 0 (Nat.le_of_ble_eq_true rfl) kF_X0_137 rfl dX0_feedSprings_27 ?_
      refine g_iload_n X 0 dX0_feedSprings_30 rfl rfl ?_
      refine g_lald X 2 rfl (spN C i2) rfl (by exact (hC.sp (by omega)).2) (Nat.le_of_ble_eq_true rfl) (v := S4 0 (spN C i2)) rfl dX0_feedSprings_31 ?_
      refine g_lstore_n X [(3, .long (S4 0 (spN C i2))), (2, .int (nI (spN C i2))), (0, .ref (f 0)), (1, .int (nI i2))] dX0_feedSprings_32 rfl (Nat.le_of_ble_eq_true rfl) rfl ?_
      refine g_lload_n X 0 dX0_feedSprings_33 rfl rfl ?_
      refine g_aload_n X 2 dX0_feedSprings_34 rfl rfl ?_
      refine g_get X (C := RX0) (T := TX0) (N := 11) (v := .ref (f 23)) inlX0 0 rfl rfl 5 (Nat.le_of_ble_eq_true rfl) kF_X0_42 rfl dX0_feedSprings_35 ?_
      refine g_get X (C := RX3) (T := TX3) (N := 7) (v := .ref (f 25)) inlX3 23 rfl rfl 2 (Nat.le_of_ble_eq_true rfl) kF_X0_237 rfl dX0_feedSprings_38 ?_
      refine g_iload_n X 3 dX0_feedSprings_41 rfl rfl ?_
      refine g_iald X 25 rfl (i2) rfl (by omega) (Nat.le_of_ble_eq_true rfl) (v := C 8 i2) rfl dX0_feedSprings_42 ?_
      refine g_i2l X (v := (C 8 i2).toInt64) dX0_feedSprings_43 rfl ?_
      have J10 : ∀ (v9 : Int64), v9 = (if (S4 0 (spN C i2)) < ((C 8 i2).toInt64) then (0 : Int64) else if (50 : Int64) < ((S4 0 (spN C i2)) / (100 : Int64)) then (50 : Int64) else (S4 0 (spN C i2)) / (100 : Int64)) → g_G p l e rm_X0_feedSprings s m args below meth c D A 7 0 0 Q (wF f cI cJ cZ C N S4 Qk Z) [(0, .ref (f 0)), (1, .int (nI i2)), (2, .int (nI (spN C i2)))] 63 [.long v9] := by
        intro v9 ev9
        refine g_lstore X [(5, .long v9), (0, .ref (f 0)), (1, .int (nI i2)), (2, .int (nI (spN C i2)))] dX0_feedSprings_63 (Nat.le_of_ble_eq_true rfl) rfl ?_
        refine g_aload_n X 1 dX0_feedSprings_65 rfl rfl ?_
        refine g_get X (C := RX0) (T := TX0) (N := 11) (v := .ref (f 1)) inlX0 0 rfl rfl 2 (Nat.le_of_ble_eq_true rfl) kF_X0_21 rfl dX0_feedSprings_66 ?_
        refine g_iload_n X 3 dX0_feedSprings_69 rfl rfl ?_
        refine g_lload X 0 dX0_feedSprings_70 rfl ?_
        obtain ⟨S11, eS11⟩ : ∃ z : St, z = giveS S4 (spN C i2) v9 := ⟨_, rfl⟩
        refine g_callV X (As := [.int (nI (spN C i2)), .long v9]) (rest := []) (m_X1_give l D cI cJ cZ (fun i => f (1 + i)) C S4 Z (spN C i2) v9 (hC.sp (by omega)).2 hD) kM_X0_172 kI_yX1_give kS_yX1_give kZ_RX1 kC_yX1_give hV_X1_give rfl rfl rfl 0 rfl (ci := 1) rfl ⟨Nat.le_of_ble_eq_true rfl, Nat.le_of_ble_eq_true rfl⟩ ⟨Nat.le_of_ble_eq_true rfl, Nat.le_of_ble_eq_true rfl⟩ (Nat.le_of_ble_eq_true rfl) dX0_feedSprings_72 rfl (em_I 1 10 11 0) (em_C (by decide) (Nat.le_of_ble_eq_true rfl) rfl) (em_nd (by decide)) (g_kk1 (w2 := wF f cI cJ cZ C N S11 Qk Z) (by rw [eS11]; exact (em3 1 10 11 0 (by decide) (Nat.le_of_ble_eq_true rfl) rfl rfl rfl)) ?_)
        refine g_pop2_2 X dX0_feedSprings_75 rfl ?_
        refine g_aload_n X 1 dX0_feedSprings_76 rfl rfl ?_
        refine g_get X (C := RX0) (T := TX0) (N := 11) (v := .ref (f 23)) inlX0 0 rfl rfl 5 (Nat.le_of_ble_eq_true rfl) kF_X0_42 rfl dX0_feedSprings_77 ?_
        refine g_iload_n X 2 dX0_feedSprings_80 rfl rfl ?_
        refine g_lload X 0 dX0_feedSprings_81 rfl ?_
        obtain ⟨S12, eS12⟩ : ∃ z : St, z = noteS S11 i2 v9 := ⟨_, rfl⟩
        refine g_callV X (As := [.int (nI i2), .long v9]) (rest := []) (m_X3_note l D cI cJ cZ (fun i => f (23 + i)) C N S11 i2 v9 (by omega)) kM_X0_242 kI_yX3_note kS_yX3_note kZ_RX3 kC_yX3_note hV_X3_note rfl rfl rfl 0 rfl (ci := 3) rfl ⟨Nat.le_of_ble_eq_true rfl, Nat.le_of_ble_eq_true rfl⟩ ⟨Nat.le_of_ble_eq_true rfl, Nat.le_of_ble_eq_true rfl⟩ (Nat.le_of_ble_eq_true rfl) dX0_feedSprings_83 rfl (em_I 23 7 30 0) (em_C (by decide) (Nat.le_of_ble_eq_true rfl) rfl) (em_nd (by decide)) (g_kk1 (w2 := wF f cI cJ cZ C N S12 Qk Z) (by rw [eS12]; exact (em3 23 7 30 0 (by decide) (Nat.le_of_ble_eq_true rfl) rfl rfl (by rw [wF_s (S' := noteS S11 i2 v9) (S := S11) (fun c h => note_oth _ _ _ (by omega))]; rfl))) ?_)
        refine g_aload_n X 1 dX0_feedSprings_86 rfl rfl ?_
        refine g_get X (C := RX0) (T := TX0) (N := 11) (v := .ref (f 34)) inlX0 0 rfl rfl 7 (Nat.le_of_ble_eq_true rfl) kF_X0_53 rfl dX0_feedSprings_87 ?_
        refine g_iconst X (v := nI 3) dX0_feedSprings_90 (by decide +kernel) ?_
        refine g_dup2_11 X dX0_feedSprings_91 rfl rfl ?_
        refine g_lald X 34 rfl (3) rfl (by omega) (Nat.le_of_ble_eq_true rfl) (v := S12 12 3) rfl dX0_feedSprings_92 ?_
        refine g_lload X 0 dX0_feedSprings_93 rfl ?_
        refine g_ladd X (v := (S12 12 3) + v9) dX0_feedSprings_95 rfl ?_
        obtain ⟨S13, eS13⟩ : ∃ z : St, z = u2 S12 12 3 ((S12 12 3) + v9) := ⟨_, rfl⟩
        refine g_last X (ws' := wF f cI cJ cZ C N S13 Qk Z) 34 rfl (3) rfl (by omega) (Nat.le_of_ble_eq_true rfl) dX0_feedSprings_96 (by rw [eS13]; first | done | (rfl)) ?_
        refine g_iinc X [(1, .int (nI (i2 + 1))), (5, .long v9), (0, .ref (f 0)), (2, .int (nI (spN C i2)))] (q := 2) (v := nI (i2 + 1)) dX0_feedSprings_97 rfl ((congrArg (fun z => nI (i2) + z) (show Int32.ofInt 1 = nI 1 by decide +kernel)).trans ((nI_add _ _).trans (congrArg nI (by omega)))) (Nat.le_of_ble_eq_true rfl) rfl ?_
        refine g_goto X (tgt := 2) dX0_feedSprings_100 (by decide) ?_
        refine g_lv _ [2, 0] rfl ?_
        exact ihL1 (i2 + 1) _ (by omega) (by (try rw [eS13]); (try rw [eS12]); (try rw [eS11]); (try rw [ev9]); (try rw [eS4]); first | done | (rfl))
      refine g_lj_lt X (tgt := 62) (pc1 := 45) dX0_feedSprings_44 rfl dX0_feedSprings_45 (by decide) (fun h8 => ?_) (fun h8 => ?_)
      · --
        refine g_lconst X (v := 0) dX0_feedSprings_62 (by decide +kernel) ?_
        refine g_lv _ [2, 3, 1] rfl ?_
        exact J10 _ (by rw [if_pos (c := (S4 0 (spN C i2)) < ((C 8 i2).toInt64)) h8])
      · --
        refine g_lload_n X 0 dX0_feedSprings_48 rfl rfl ?_
        refine g_ldc2 X kL_X0_166 dX0_feedSprings_49 ?_
        refine g_ldiv X (v := (S4 0 (spN C i2)) / (100 : Int64)) dX0_feedSprings_52 (by decide +kernel) rfl ?_
        refine g_ldc2 X kL_X0_240 dX0_feedSprings_53 ?_
        refine g_mmin_long X (v := if (50 : Int64) < ((S4 0 (spN C i2)) / (100 : Int64)) then (50 : Int64) else (S4 0 (spN C i2)) / (100 : Int64)) kT_min_long kM_X0_160 kZ_Math kC_min_long (Nat.le_of_ble_eq_true rfl) (Nat.le_of_ble_eq_true rfl) (Nat.le_of_ble_eq_true rfl) (Nat.le_of_ble_eq_true rfl) rfl dX0_feedSprings_56 ?_
        refine g_goto X (tgt := 63) dX0_feedSprings_59 (by decide) ?_
        refine g_lv _ [2, 3, 1] rfl ?_
        exact J10 _ (by rw [if_neg (c := (S4 0 (spN C i2)) < ((C 8 i2).toInt64)) h8])
  refine g_lv _ [1, 0] rfl ?_
  exact L1 ((N 2)) 0 _ (by omega) (by first | rfl | (first | done | rfl))
