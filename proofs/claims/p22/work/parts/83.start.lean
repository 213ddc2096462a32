/-! THE CLAIM OUT OF ONE WALK OF THE LAW'S BODY. Your part is whole_start (and what it stands on); all else here is the same for every law, but numbers. -/
def R_law : String := "SteamfieldLaw"
def lw_P (b : Addr) (xs : List Int32) (args : Array Value) (s : State) : Prop := args = #[.ref b] ∧ s.IntsAt b xs ∧ xs.length ≤ 260 ∧ (Jvm.Cond.and given_1 narrow_1).before args s = true
/-- what a walk over the start with the record d0 says of its end, said of the start itself -/
theorem lw_closed {s t : State} {o : Outcome} {d0 : Drawn} {L : List Loc} {k n : Nat} (hd0 : s.drawn.sameBut d0 lw_cs) (hv : ∃ v, o = .returned v) (hW : (s.setDrawn d0).WarmedH t.vm) (hs : (s.setDrawn d0).sameButNew ({ t with vm := s.vm } : State) L k n) : State.butDraws s t lw_cs (fun t1 => Framed s o t1 L k n) := by
  have h2 : t.drawn = d0 := congrArg State.drawn hs.1
  refine ⟨⟨hv, hW, State.sameButNew.setDrawn hs s.drawn⟩, ?_, by decide⟩
  rw [h2]
  exact hd0
def lw_Q (_ : Array Value) (s : State) (o : Outcome) (t : State) : Prop := o = .returned (some (.int 1)) ∧ State.butDraws s t lw_cs (fun t1 => Framed s o t1 [] 600130 7301080)
def lw_Z (below : List Frame) (a : Array Value) (s : State) : State → Prop := fun t => ∃ o, t.status = .running ∧ Ended t below o ∧ lw_Q a s o t
/-- the law's own end, with 1 on the stack, nothing written that was there before, its room as the claim has it; d0: the record of draws at this point (at the entry s.drawn: begin with 'refine W.base ?_' and 'have hd0 := Drawn.sameBut.refl s.drawn lw_cs') -/
theorem lw_ret {p : Program} {l : Launch} {e : Env} {s : State} {m : MethodId} {below : List Frame} {meth : Method} {c : Code} {b : Nat} {d0 : Drawn} (hd0 : s.drawn.sameBut d0 lw_cs) (hx : p.tables.exec = Jvm.exec) (hb : c.code = code) (hr : meth.sig.returnType = ret) (hlocks : meth.locks = false) {pc : Nat} {H : Heap} {ls : Array Slot} (hdg : decode code pc = .ok (.ireturn, 1)) : W p l e room_1 (s.setDrawn d0) m #[Value.ref b] below meth c H [] 600130 7301080 (lw_Z below #[Value.ref b] s) (F0 m pc ls [.int 1]) := by
  intro T hT X
  obtain ⟨fs, hret, hrun, hended, hW, hframe⟩ := X.leave (v := some (.int 1)) (hlocks := hlocks) (fun h => by rw [hr] at h; cases h)
  have hmeth' : T.vm.method? m = some meth := X.method'
  refine ⟨T.setFrames fs, ?_, .returned (some (.int 1)), hrun, hended, rfl, lw_closed hd0 ⟨_, rfl⟩ hW hframe⟩
  jvm_step X.here [X.here.top, hx, hb, hdg, hmeth', hr, ret, narrow_b1]
  (try refine ⟨rfl, ?_⟩); (try refine ⟨rfl, ?_⟩)
  first | (intro acts; rw [hret _ acts rfl rfl rfl]) | rw [hret _ _ rfl rfl rfl]
  exact Steps.refl _
/-- what holds at the law's entry: the machine, the code, the tables' words (any of lw_tbl by 'hts w (by decide +kernel)'), the script of L ints xs at the cell b, what the Statement gives of the start (any of its parts by flat_of_before) -/
def lw_At (p : Program) (s : State) (m : MethodId) (meth : Method) (c : Code) (b L : Nat) (xs : Nat → Int32) : Prop :=
  p.tables.exec = Jvm.exec ∧ c.code = code ∧ meth.sig.returnType = ret ∧ c.maxLocals = 25 ∧ s.vm.findClass R_law = some m.cls ∧ (∀ w ∈ lw_tbl, w.before #[Value.ref b] s = true) ∧ va_X b L xs s s.heap ∧ b < s.heap.size ∧ meth.locks = false ∧ (Jvm.Cond.and given_1 narrow_1).before #[Value.ref b] s = true
theorem em_new {r w : va_W} {o : Nat × va_E} : g_Emb (r ++ [o]) [o] w (r ++ w) := by
  refine ⟨[r.length], List.range' 0 r.length, List.range' 0 (r ++ w).length, r, by simp, rfl, ?_, va_nd_of List.nodup_range', ?_, ?_, va_nd_of List.nodup_range'⟩
  · exact em_seg (p := []) (q := r) (r := [o]) rfl rfl rfl
  · intro i hi hj
    rw [List.mem_range'_1] at hi
    rw [List.mem_singleton] at hj
    omega
  · exact em_seg (p := []) (q := r ++ w) (r := []) (by simp) rfl rfl
theorem st_nest : ∀ w ∈ g_nest, Cond.methodLinkNest w.1 w.2.1 w.2.2 "Steamfield" ∈ lw_tbl := by decide +kernel
theorem st_arr {ty : FieldType} {s : State} {args : Array Value} (h : (Cond.arrayClass ty).before args s = true) (hno : ∀ C : String, ty ≠ .object C) : ∃ cA : ClassId, ArrOfT s cA ty ∧ va_RA s cA ty := by
  obtain ⟨cA, kA, comp, h1, h2, h3⟩ := Cond.arrayClass_spec h
  refine ⟨cA, fun n z => ⟨fun k h => (by cases h), kA, h2, comp, h3⟩, ?_⟩
  cases ty <;> first | exact h1 | exact absurd rfl (hno _)
theorem iS_c : ∀ n c, 2 ≤ c → itr iSs zS n c = zS c
  | 0, _, _ => rfl
  | n + 1, c, h => by
    show iSs n (itr iSs zS n) c = zS c
    unfold iSs
    rw [u2_c _ _ _ (by omega), u2_c _ _ _ (by omega)]
    exact iS_c n c h
theorem iC_c : ∀ n c, 2 ≤ c → itr iCs zC n c = zC c
  | 0, _, _ => rfl
  | n + 1, c, h => by
    show iCs n (itr iCs zC n) c = zC c
    unfold iCs c2
    rw [if_neg (by omega), if_neg (by omega)]
    exact iC_c n c h
theorem iS_2 {c : Nat} (h : 2 ≤ c) (i : Nat) : iS c i = 0 := congrFun (iS_c 12 c h) i
theorem iC_2 {c : Nat} (h : 2 ≤ c) (i : Nat) : iC c i = 0 := congrFun (iC_c 12 c h) i
theorem iX_ok : Xok iC := by
  unfold Xok
  decide +kernel
theorem iW_ok : ∀ b, b < 12 → 0 ≤ (iS 0 b).toInt ∧ (iS 0 b).toInt ≤ 50000 := by decide +kernel
theorem iH_ok : (∀ b, b < 12 → 0 ≤ (iS 1 b).toInt ∧ (iS 1 b).toInt ≤ 25000000) ∧ ht iS ≤ 300000000 := by decide +kernel
theorem hv_new : Hv iC zN iS 0 := by
  have z6 := congrArg Int64.toInt (iS_2 (c := 12) (by decide) 6)
  have z7 := congrArg Int64.toInt (iS_2 (c := 12) (by decide) 7)
  have e0 : (0 : Int64).toInt = 0 := by decide
  rw [e0] at z6 z7
  refine ⟨fun u h => absurd h (Nat.not_lt_zero u), fun _ b hb => (iH_ok.1 b hb).2, ⟨fun b hb => (iH_ok.1 b hb).1, ?_⟩, ?_⟩
  · have := iH_ok.2
    omega
  · unfold Sv
    rw [z6, z7]
    decide
theorem li_new : LI iC zN iS iC zN iS 0 := by
  have hz : ZB iC zN iS := ⟨fun c w a _ _ _ => iS_2 (by omega) w, fun c w a _ _ _ => iC_2 (by omega) w, fun c w a _ _ _ => iC_2 (by omega) w, fun c w a _ _ _ => iC_2 (by omega) w, fun c w a _ _ _ => iS_2 (by omega) w, fun k w _ _ _ => iS_2 (by decide) _⟩
  have e13 := iS_2 (c := 13) (by decide) 0
  have e14 := iS_2 (c := 14) (by decide) 0
  have n0 : ∀ w, ¬ w < zN 0 := fun w h => absurd h (Nat.not_lt_zero w)
  have n2 : ∀ w, ¬ w < zN 2 := fun w h => absurd h (Nat.not_lt_zero w)
  refine ⟨⟨⟨Nat.zero_le _, Nat.zero_le _, Nat.zero_le _, fun w h => absurd h (n0 w), fun w h => absurd h (n0 w), fun w h => absurd h (n2 w)⟩, ?_, iX_ok, fun w h => absurd h (n0 w), hz, fun b hb => ?_, ⟨fun w h => absurd h (n0 w), fun w h => absurd h (n0 w), ?_⟩, ?_, ⟨?_, ?_⟩, fun w h => absurd h (n0 w), fun w h => absurd h (n2 w)⟩, by decide, hz, Nat.le_refl _, Nat.le_refl _, Nat.le_refl _, hv_new⟩
  · unfold Rok
    rw [iC_2 (by decide)]
    decide
  · have := iW_ok b hb
    omega
  · rw [e13]
    decide
  · rw [e13]
    decide
  · unfold qN
    rw [e14]
    decide
  · unfold qN
    rw [e14]
    decide
theorem lv_new : LV iC zN iS 0 := ⟨li_new.1, li_new.2.2.2.2.2.2, ⟨fun w h => absurd h (Nat.not_lt_zero w), fun w h => absurd h (Nat.not_lt_zero w)⟩, by decide, by decide, by decide⟩
theorem lz_C : lrC zC = fun _ => 0 := by
  funext i
  unfold lrC
  split <;> rfl
theorem lz_E : lrE zC zN zS = fun _ => 0 := by
  funext i
  unfold lrE
  (repeat' split) <;> first | rfl | (rename_i h; exact absurd h (Nat.not_lt_zero _))
theorem lz_G : lrG zC zS = fun _ => 0 := by
  funext i
  unfold lrG
  (repeat' split) <;> rfl
theorem lz_A : lrA zS = fun _ => 0 := by
  funext i
  rfl
theorem lz_U : lrU zC = fun _ => 0 := by
  funext i
  unfold lrU
  split <;> rfl
theorem lz_K : lrK zQ = fun _ => 0 := by
  funext i
  unfold lrK
  split <;> rfl
theorem lz_Q : lrQ zC zN zS = fun _ => 0 := by
  funext i
  unfold lrQ
  (repeat' split) <;> rfl
set_option maxRecDepth 100000 in
set_option maxHeartbeats 4000000 in
theorem whole_start {p : Program} {e : Env} {s : State} {m : MethodId} {below : List Frame} {meth : Method} {c : Code} (l : Launch) (hflags : l.flags = flags0) {b L : Nat} {xs : Nat → Int32} (hL : L ≤ 260) (C0 : lw_At p s m meth c b L xs) : W p l e room_1 s m #[Value.ref b] below meth c s.heap [] 0 0 (lw_Z below #[Value.ref b] s) (entryFrame m ([Value.ref b] : List Value).toArray 25) := by
  obtain ⟨hx, hb, hr, hml, hown, hts, hX, hbl, hlocks, hgv⟩ := id C0
  have hwd : ∀ w ∈ wsL_law, w.before #[Value.ref b] s = true := fun w h => hts w (wi_all w h)
  obtain ⟨c0, iS0, hKn0⟩ := u_known (C := RX0) (T := TX0) (N := 11) (n := 11) hwd inlX0 (hwd _ kB_RX0)
  obtain ⟨c1, iS1, hKn1⟩ := u_known (C := RX1) (T := TX1) (N := 9) (n := 9) hwd inlX1 (hwd _ kB_RX1)
  obtain ⟨c2, iS2, hKn2⟩ := u_known (C := RX2) (T := TX2) (N := 4) (n := 4) hwd inlX2 (hwd _ kB_RX2)
  obtain ⟨c3, iS3, hKn3⟩ := u_known (C := RX3) (T := TX3) (N := 7) (n := 7) hwd inlX3 (hwd _ kB_RX3)
  obtain ⟨c4, iS4, hKn4⟩ := u_known (C := RX4) (T := TX4) (N := 3) (n := 3) hwd inlX4 (hwd _ kB_RX4)
  obtain ⟨c5, iS5, hKn5⟩ := u_known (C := RX5) (T := TX5) (N := 9) (n := 9) hwd inlX5 (hwd _ kB_RX5)
  obtain ⟨c6, iS6, hKn6⟩ := u_known (C := RX6) (T := TX6) (N := 2) (n := 2) hwd inlX6 (hwd _ kB_RX6)
  obtain ⟨dC, dI, hKc⟩ : ∃ (dC : Nat → ClassId) (dI : Nat → Nat → Nat), ∀ (k : Nat) (q : vw_C), vwCl[k]? = some q → u_Kn s q.1 q.2.1 q.2.2 (dC k) (dI k) := by
    refine ⟨fun k => if k = 0 then c0 else if k = 1 then c1 else if k = 2 then c2 else if k = 3 then c3 else if k = 4 then c4 else if k = 5 then c5 else c6, fun k => if k = 0 then iS0 else if k = 1 then iS1 else if k = 2 then iS2 else if k = 3 then iS3 else if k = 4 then iS4 else if k = 5 then iS5 else iS6, ?_⟩
    intro k q hq
    match k, hq with
    | 0, hq => cases hq; exact hKn0
    | 1, hq => cases hq; exact hKn1
    | 2, hq => cases hq; exact hKn2
    | 3, hq => cases hq; exact hKn3
    | 4, hq => cases hq; exact hKn4
    | 5, hq => cases hq; exact hKn5
    | 6, hq => cases hq; exact hKn6
    | k + 7, hq => simp [vwCl] at hq
  obtain ⟨cI, hArI, hRaI⟩ := st_arr (hwd _ kA_int) (fun C z => by cases z)
  obtain ⟨cJ, hArJ, hRaJ⟩ := st_arr (hwd _ kA_long) (fun C z => by cases z)
  obtain ⟨cZ, hArZ, hRaZ⟩ := st_arr (hwd _ kA_boolean) (fun C z => by cases z)
  have hK : g_Kn (dC, dI) cI cJ cZ s := by
    refine ⟨⟨hKc, fun k q hk => ?_⟩, fun w hw => va_Nw.of rfl (hts _ (st_nest w hw))⟩
    match k, hk with
    | 0, hk => cases hk; exact ⟨hArI, hRaI⟩
    | 1, hk => cases hk; exact ⟨hArJ, hRaJ⟩
    | 2, hk => cases hk; exact ⟨hArZ, hRaZ⟩
    | k + 3, hk => simp [g_tys] at hk
  have X : g_Cx p s m #[Value.ref b] c (dC, dI) (fun q : Nat => s.heap.size ≤ q) 25 cL_law RL cI cJ cZ := ⟨hx, hb, hml, hown, hwd, hK, fun _ h => h⟩
  have hbA : ¬ (fun q : Nat => s.heap.size ≤ q) b := Nat.not_le.mpr hbl
  have hEnd : ∀ (kc ks : Nat) (ws : va_W) (lv : List (Nat × Value)), kc ≤ 600130 → ks ≤ 7301080 → g_G p l e room_1 s m #[Value.ref b] below meth c (dC, dI) (fun q : Nat => s.heap.size ≤ q) 25 kc ks (lw_Z below #[Value.ref b] s) ws lv 525 [.int (nI 1)] := by
    intro kc ks ws lv h1 h2 H locs ls hP hD hS hl
    refine va_forget (fun q hq => hS.2.2 q hq) (W.widen h1 h2 (W.base ?_))
    exact lw_ret (Drawn.sameBut.refl s.drawn lw_cs) hx hb hr hlocks dL_law_525
  have G : g_G p l e room_1 s m #[Value.ref b] below meth c (dC, dI) (fun q : Nat => s.heap.size ≤ q) 25 0 0 (lw_Z below #[Value.ref b] s) [] [(0, .ref b)] 0 [] := by
    refine g_new X inlX6 tyX6 tyX6_ok kQ_L_81 kB_RX6 kZ_RX6 (ci := 6) rfl [.null, .null] (by decide +kernel) (Nat.le_of_ble_eq_true rfl) (Nat.le_of_ble_eq_true rfl) dL_law_0 (fun q0 => ?_)
    refine g_dup X dL_law_3 rfl ?_
    refine g_callI (ret := none) X (As := []) (rest := [.ref q0]) (m_X6_init l (dC, dI) cI cJ cZ q0) kM_L_151 kI_yX6_init kZ_RX6 kC_yX6_init rfl hV_X6_init.2 rfl rfl rfl ⟨Nat.le_of_ble_eq_true rfl, Nat.le_of_ble_eq_true rfl⟩ ⟨Nat.le_of_ble_eq_true rfl, Nat.le_of_ble_eq_true rfl⟩ (Nat.le_of_ble_eq_true rfl) dL_law_4 rfl [0] rfl rfl (fun v w hv => ?_)
    obtain ⟨rfl, x, hx0, rfl⟩ := hv
    subst hx0
    refine ⟨wX2 x cI cJ cZ iC zN iS zQ zS iC zN iS zQ zS, em_new (r := []), ?_⟩
    refine g_astore_n X [(1, .ref (x 0)), (0, .ref b)] dL_law_7 rfl (Nat.le_of_ble_eq_true rfl) rfl ?_
    refine g_bipush X (v := nI 12) dL_law_8 (by decide +kernel) ?_
    refine g_newaJ X 12 rfl (Nat.le_of_ble_eq_true rfl) (Nat.le_of_ble_eq_true rfl) (Nat.le_of_ble_eq_true rfl) dL_law_10 (fun r0 => ?_)
    refine g_astore_n X [(2, .ref r0), (1, .ref (x 0)), (0, .ref b)] dL_law_12 rfl (Nat.le_of_ble_eq_true rfl) rfl ?_
    refine g_bipush X (v := nI 12) dL_law_13 (by decide +kernel) ?_
    refine g_newaJ X 12 rfl (Nat.le_of_ble_eq_true rfl) (Nat.le_of_ble_eq_true rfl) (Nat.le_of_ble_eq_true rfl) dL_law_15 (fun r1 => ?_)
    refine g_astore_n X [(3, .ref r1), (2, .ref r0), (1, .ref (x 0)), (0, .ref b)] dL_law_17 rfl (Nat.le_of_ble_eq_true rfl) rfl ?_
    refine g_bipush X (v := nI 12) dL_law_18 (by decide +kernel) ?_
    refine g_newaJ X 12 rfl (Nat.le_of_ble_eq_true rfl) (Nat.le_of_ble_eq_true rfl) (Nat.le_of_ble_eq_true rfl) dL_law_20 (fun r2 => ?_)
    refine g_astore X [(4, .ref r2), (3, .ref r1), (2, .ref r0), (1, .ref (x 0)), (0, .ref b)] dL_law_22 (Nat.le_of_ble_eq_true rfl) rfl ?_
    refine g_bipush X (v := nI 12) dL_law_24 (by decide +kernel) ?_
    refine g_newaJ X 12 rfl (Nat.le_of_ble_eq_true rfl) (Nat.le_of_ble_eq_true rfl) (Nat.le_of_ble_eq_true rfl) dL_law_26 (fun r3 => ?_)
    refine g_astore X [(5, .ref r3), (4, .ref r2), (3, .ref r1), (2, .ref r0), (1, .ref (x 0)), (0, .ref b)] dL_law_28 (Nat.le_of_ble_eq_true rfl) rfl ?_
    refine g_bipush X (v := nI 24) dL_law_30 (by decide +kernel) ?_
    refine g_newaI X 24 rfl (Nat.le_of_ble_eq_true rfl) (Nat.le_of_ble_eq_true rfl) (Nat.le_of_ble_eq_true rfl) dL_law_32 (fun r4 => ?_)
    refine g_astore X [(6, .ref r4), (5, .ref r3), (4, .ref r2), (3, .ref r1), (2, .ref r0), (1, .ref (x 0)), (0, .ref b)] dL_law_34 (Nat.le_of_ble_eq_true rfl) rfl ?_
    refine g_bipush X (v := nI 56) dL_law_36 (by decide +kernel) ?_
    refine g_newaI X 56 rfl (Nat.le_of_ble_eq_true rfl) (Nat.le_of_ble_eq_true rfl) (Nat.le_of_ble_eq_true rfl) dL_law_38 (fun r5 => ?_)
    refine g_astore X [(7, .ref r5), (6, .ref r4), (5, .ref r3), (4, .ref r2), (3, .ref r1), (2, .ref r0), (1, .ref (x 0)), (0, .ref b)] dL_law_40 (Nat.le_of_ble_eq_true rfl) rfl ?_
    refine g_bipush X (v := nI 8) dL_law_42 (by decide +kernel) ?_
    refine g_newaJ X 8 rfl (Nat.le_of_ble_eq_true rfl) (Nat.le_of_ble_eq_true rfl) (Nat.le_of_ble_eq_true rfl) dL_law_44 (fun r6 => ?_)
    refine g_astore X [(8, .ref r6), (7, .ref r5), (6, .ref r4), (5, .ref r3), (4, .ref r2), (3, .ref r1), (2, .ref r0), (1, .ref (x 0)), (0, .ref b)] dL_law_46 (Nat.le_of_ble_eq_true rfl) rfl ?_
    refine g_bipush X (v := nI 15) dL_law_48 (by decide +kernel) ?_
    refine g_newaI X 15 rfl (Nat.le_of_ble_eq_true rfl) (Nat.le_of_ble_eq_true rfl) (Nat.le_of_ble_eq_true rfl) dL_law_50 (fun r7 => ?_)
    refine g_astore X [(9, .ref r7), (8, .ref r6), (7, .ref r5), (6, .ref r4), (5, .ref r3), (4, .ref r2), (3, .ref r1), (2, .ref r0), (1, .ref (x 0)), (0, .ref b)] dL_law_52 (Nat.le_of_ble_eq_true rfl) rfl ?_
    refine g_bipush X (v := nI 24) dL_law_54 (by decide +kernel) ?_
    refine g_newaJ X 24 rfl (Nat.le_of_ble_eq_true rfl) (Nat.le_of_ble_eq_true rfl) (Nat.le_of_ble_eq_true rfl) dL_law_56 (fun r8 => ?_)
    refine g_astore X [(10, .ref r8), (9, .ref r7), (8, .ref r6), (7, .ref r5), (6, .ref r4), (5, .ref r3), (4, .ref r2), (3, .ref r1), (2, .ref r0), (1, .ref (x 0)), (0, .ref b)] dL_law_58 (Nat.le_of_ble_eq_true rfl) rfl ?_
    refine g_bipush X (v := nI 6) dL_law_60 (by decide +kernel) ?_
    refine g_newaI X 6 rfl (Nat.le_of_ble_eq_true rfl) (Nat.le_of_ble_eq_true rfl) (Nat.le_of_ble_eq_true rfl) dL_law_62 (fun r9 => ?_)
    refine g_astore X [(11, .ref r9), (10, .ref r8), (9, .ref r7), (8, .ref r6), (7, .ref r5), (6, .ref r4), (5, .ref r3), (4, .ref r2), (3, .ref r1), (2, .ref r0), (1, .ref (x 0)), (0, .ref b)] dL_law_64 (Nat.le_of_ble_eq_true rfl) rfl ?_
    refine g_bipush X (v := nI 8) dL_law_66 (by decide +kernel) ?_
    refine g_newaJ X 8 rfl (Nat.le_of_ble_eq_true rfl) (Nat.le_of_ble_eq_true rfl) (Nat.le_of_ble_eq_true rfl) dL_law_68 (fun r10 => ?_)
    refine g_astore X [(12, .ref r10), (11, .ref r9), (10, .ref r8), (9, .ref r7), (8, .ref r6), (7, .ref r5), (6, .ref r4), (5, .ref r3), (4, .ref r2), (3, .ref r1), (2, .ref r0), (1, .ref (x 0)), (0, .ref b)] dL_law_70 (Nat.le_of_ble_eq_true rfl) rfl ?_
    refine g_bipush X (v := nI 60) dL_law_72 (by decide +kernel) ?_
    refine g_newaI X 60 rfl (Nat.le_of_ble_eq_true rfl) (Nat.le_of_ble_eq_true rfl) (Nat.le_of_ble_eq_true rfl) dL_law_74 (fun r11 => ?_)
    refine g_astore X [(13, .ref r11), (12, .ref r10), (11, .ref r9), (10, .ref r8), (9, .ref r7), (8, .ref r6), (7, .ref r5), (6, .ref r4), (5, .ref r3), (4, .ref r2), (3, .ref r1), (2, .ref r0), (1, .ref (x 0)), (0, .ref b)] dL_law_76 (Nat.le_of_ble_eq_true rfl) rfl ?_
    refine g_bipush X (v := nI 6) dL_law_78 (by decide +kernel) ?_
    refine g_newaI X 6 rfl (Nat.le_of_ble_eq_true rfl) (Nat.le_of_ble_eq_true rfl) (Nat.le_of_ble_eq_true rfl) dL_law_80 (fun r12 => ?_)
    refine g_astore X [(14, .ref r12), (13, .ref r11), (12, .ref r10), (11, .ref r9), (10, .ref r8), (9, .ref r7), (8, .ref r6), (7, .ref r5), (6, .ref r4), (5, .ref r3), (4, .ref r2), (3, .ref r1), (2, .ref r0), (1, .ref (x 0)), (0, .ref b)] dL_law_82 (Nat.le_of_ble_eq_true rfl) rfl ?_
    obtain ⟨y, hy⟩ : ∃ y : Nat → Nat, y = (fun i : Nat => [r0, r1, r2, r3, r4, r5, r6, r7, r8, r9, r10, r11, r12].getD i 0) := ⟨_, rfl⟩
    have hy0 : r0 = y 0 := by rw [hy]; rfl
    have hy1 : r1 = y 1 := by rw [hy]; rfl
    have hy2 : r2 = y 2 := by rw [hy]; rfl
    have hy3 : r3 = y 3 := by rw [hy]; rfl
    have hy4 : r4 = y 4 := by rw [hy]; rfl
    have hy5 : r5 = y 5 := by rw [hy]; rfl
    have hy6 : r6 = y 6 := by rw [hy]; rfl
    have hy7 : r7 = y 7 := by rw [hy]; rfl
    have hy8 : r8 = y 8 := by rw [hy]; rfl
    have hy9 : r9 = y 9 := by rw [hy]; rfl
    have hy10 : r10 = y 10 := by rw [hy]; rfl
    have hy11 : r11 = y 11 := by rw [hy]; rfl
    have hy12 : r12 = y 12 := by rw [hy]; rfl
    rw [hy0, hy1, hy2, hy3, hy4, hy5, hy6, hy7, hy8, hy9, hy10, hy11, hy12]
    refine g_ws (ws' := wX2 x cI cJ cZ iC zN iS zQ zS iC zN iS zQ zS ++ wL y cI cJ zC zN zS zQ) (by simp only [List.append_assoc, List.cons_append, List.nil_append]; unfold wL; rw [lz_C, lz_E, lz_G, lz_A, lz_U, lz_K, lz_Q]; rfl) ?_
    refine g_lv [(0, .ref b), (1, .ref (x 0)), (2, .ref (y 0)), (3, .ref (y 1)), (4, .ref (y 2)), (5, .ref (y 3)), (6, .ref (y 4)), (7, .ref (y 5)), (8, .ref (y 6)), (9, .ref (y 7)), (10, .ref (y 8)), (11, .ref (y 9)), (12, .ref (y 10)), (13, .ref (y 11)), (14, .ref (y 12))] [14, 13, 12, 11, 10, 9, 8, 7, 6, 5, 4, 3, 2, 1, 0] rfl ?_
    refine n_law_fill l (dC, dI) cI cJ cZ x y b X _ _ (show 84 ≤ 600130 by decide) (show 1239 ≤ 7301080 by decide) ?_
    exact n_law_loop l (dC, dI) cI cJ cZ x y b X L xs hX hbl hbA hL hEnd 60 0 84 1239 iC zN iS zQ zS iC zN iS zQ zS 0 (by decide) lv_new li_new.2.2.1 ⟨Nat.le_refl _, Nat.le_refl _, Nat.le_refl _⟩ (by decide) (by decide) (by decide)
  have hP : va_P (dC, dI) vwCl [] s.heap := fun k q h => by simp at h
  have hD : va_D (fun q : Nat => s.heap.size ≤ q) [] := ⟨fun i j p q h => by simp at h, fun k q h => by simp at h⟩
  have hl := lv_entry ([.ref b]) (n := 25) (Nat.le_of_ble_eq_true rfl)
  rw [lg_entry_eq]
  exact G s.heap [] _ hP hD va_S.rf hl
