/-! THE CLAIM OUT OF ONE WALK OF THE LAW'S BODY. Your part is whole_start (and what it stands on); all else here is the same for every law, but numbers. -/
def R_law : String := "SteamfieldLaw"
def lw_P (b : Addr) (xs : List Int32) (args : Array Value) (s : State) : Prop := args = #[.ref b] ∧ s.IntsAt b xs ∧ xs.length ≤ 2048 ∧ (Jvm.Cond.and given_1 narrow_1).before args s = true
/-- what a walk over the start with the record d0 says of its end, said of the start itself -/
theorem lw_closed {s t : State} {o : Outcome} {d0 : Drawn} {L : List Loc} {k n : Nat} (hd0 : s.drawn.sameBut d0 lw_cs) (hv : ∃ v, o = .returned v) (hW : (s.setDrawn d0).WarmedH t.vm) (hs : (s.setDrawn d0).sameButNew ({ t with vm := s.vm } : State) L k n) : State.butDraws s t lw_cs (fun t1 => Framed s o t1 L k n) := by
  have h2 : t.drawn = d0 := congrArg State.drawn hs.1
  refine ⟨⟨hv, hW, State.sameButNew.setDrawn hs s.drawn⟩, ?_, by decide⟩
  rw [h2]
  exact hd0
def lw_Q (_ : Array Value) (s : State) (o : Outcome) (t : State) : Prop := o = .returned (some (.int 1)) ∧ State.butDraws s t lw_cs (fun t1 => Framed s o t1 [] 1116 10012)
def lw_Z (below : List Frame) (a : Array Value) (s : State) : State → Prop := fun t => ∃ o, t.status = .running ∧ Ended t below o ∧ lw_Q a s o t
/-- the law's own end, with 1 on the stack, nothing written that was there before, its room as the claim has it; d0: the record of draws at this point (at the entry s.drawn: begin with 'refine W.base ?_' and 'have hd0 := Drawn.sameBut.refl s.drawn lw_cs') -/
theorem lw_ret {p : Program} {l : Launch} {e : Env} {s : State} {m : MethodId} {below : List Frame} {meth : Method} {c : Code} {b : Nat} {d0 : Drawn} (hd0 : s.drawn.sameBut d0 lw_cs) (hx : p.tables.exec = Jvm.exec) (hb : c.code = code) (hr : meth.sig.returnType = ret) (hlocks : meth.locks = false) {pc : Nat} {H : Heap} {ls : Array Slot} (hdg : decode code pc = .ok (.ireturn, 1)) : W p l e room_1 (s.setDrawn d0) m #[Value.ref b] below meth c H [] 1116 10012 (lw_Z below #[Value.ref b] s) (F0 m pc ls [.int 1]) := by
  intro T hT X
  obtain ⟨fs, hret, hrun, hended, hW, hframe⟩ := X.leave (v := some (.int 1)) (hlocks := hlocks) (fun h => by rw [hr] at h; cases h)
  have hmeth' : T.vm.method? m = some meth := X.method'
  refine ⟨T.setFrames fs, ?_, .returned (some (.int 1)), hrun, hended, rfl, lw_closed hd0 ⟨_, rfl⟩ hW hframe⟩
  jvm_step X.here [X.here.top, hx, hb, hdg, hmeth', hr, ret, narrow_b1]
  (try refine ⟨rfl, ?_⟩); (try refine ⟨rfl, ?_⟩)
  first | (intro acts; rw [hret _ acts rfl rfl rfl]) | rw [hret _ _ rfl rfl rfl]
  exact Steps.refl _
/-- what holds at the law's entry: the machine, the code, the tables' words (any of lw_tbl by 'hts w (by decide +kernel)'), the script of L ints xs at the cell b, what the Statement gives of the start (any of its parts by flat_of_before) -/
def lw_At (p : Program) (s : State) (m : MethodId) (meth : Method) (c : Code) (b L : Nat) (xs : Nat → Int32) : Prop :=
  p.tables.exec = Jvm.exec ∧ c.code = code ∧ meth.sig.returnType = ret ∧ c.maxLocals = 8 ∧ s.vm.findClass R_law = some m.cls ∧ (∀ w ∈ lw_tbl, w.before #[Value.ref b] s = true) ∧ va_X b L xs s s.heap ∧ b < s.heap.size ∧ meth.locks = false ∧ (Jvm.Cond.and given_1 narrow_1).before #[Value.ref b] s = true
section GXS
variable {p : Program} {l : Launch} {e : Env} {R : Room} {s : State} {m : MethodId} {args : Array Value} {below : List Frame} {meth : Method} {c : Code} {D : va_G} {A : Nat → Prop} {nL kc ks : Nat} {Q : State → Prop} {lv : List (Nat × Value)} {pc : Nat} {st : List Value}
theorem g_swap {A1 M1 O1 : va_W} (kk : g_G p l e R s m args below meth c D A nL kc ks Q (A1 ++ (O1 ++ M1)) lv pc st) : g_G p l e R s m args below meth c D A nL kc ks Q (A1 ++ (M1 ++ O1)) lv pc st := by
  intro H locs ls hP hD hS hl
  have h : (List.range' 0 A1.length ++ (List.range' (A1.length + M1.length) O1.length ++ List.range' A1.length M1.length)).map (fun i => (A1 ++ (M1 ++ O1))[i]?) = (A1 ++ (O1 ++ M1)).map some := by
    simp only [List.map_append]
    rw [em_seg (V := A1 ++ (M1 ++ O1)) (k := 0) (p := []) (q := A1) (r := M1 ++ O1) rfl rfl rfl, em_seg (V := A1 ++ (M1 ++ O1)) (p := A1 ++ M1) (q := O1) (r := []) (by simp) (by simp) rfl, em_seg (V := A1 ++ (M1 ++ O1)) (p := A1) (q := M1) (r := O1) rfl rfl rfl]
  have nd : va_nd (List.range' 0 A1.length ++ (List.range' (A1.length + M1.length) O1.length ++ List.range' A1.length M1.length)) = true := by
    refine va_nd_of (List.nodup_append.mpr ⟨List.nodup_range', List.nodup_append.mpr ⟨List.nodup_range', List.nodup_range', ?_⟩, ?_⟩) <;> (intro a ha b hb; simp only [List.mem_append, List.mem_range'_1] at ha hb; omega)
  exact kk H locs ls (hP.map _ h) (hD.sub _ nd h) hS hl
end GXS
theorem em_new {r w : va_W} {o : Nat × va_E} : g_Emb (r ++ [o]) [o] w (r ++ w) := by
  refine ⟨[r.length], List.range' 0 r.length, List.range' 0 (r ++ w).length, r, by simp, rfl, ?_, va_nd_of List.nodup_range', ?_, ?_, va_nd_of List.nodup_range'⟩
  · exact em_seg (p := []) (q := r) (r := [o]) rfl rfl rfl
  · intro i hi hj
    rw [List.mem_range'_1] at hi
    rw [List.mem_singleton] at hj
    omega
  · exact em_seg (p := []) (q := r ++ w) (r := []) (by simp) rfl rfl
theorem st_nest : ∀ w ∈ g_nest, Cond.methodLinkNest w.1 w.2.1 w.2.2 "Steamfield" ∈ lw_tbl := by decide +kernel
theorem st_ds : ∀ y ∈ g_ds, Cond.declares y ∈ lw_tbl := by decide +kernel
theorem st_cs : ∀ x ∈ g_xs, Cond.castable x x ∈ lw_tbl := by decide +kernel
theorem st_s1 : Cond.stringRef RX6 155 "there is no such number" ∈ lw_tbl := by decide +kernel
theorem st_s2 : Cond.stringRef RX6 162 "an argument is out of its range" ∈ lw_tbl := by decide +kernel
theorem st_s3 : Cond.stringRef RX6 167 "not in this state" ∈ lw_tbl := by decide +kernel
theorem st_l1 : Cond.laysStatic Bundle.tN "UNASSIGNED_STACK" Bundle.steD ∈ lw_tbl := by decide +kernel
theorem st_l2 : Cond.laysStatic Bundle.tN "SUPPRESSED_SENTINEL" Bundle.listD ∈ lw_tbl := by decide +kernel
theorem st_it : Cond.initialized Bundle.tN ∈ lw_tbl := by decide +kernel
theorem st_arr {ty : FieldType} {s : State} {args : Array Value} (h : (Cond.arrayClass ty).before args s = true) (hno : ∀ C : String, ty ≠ .object C) : ∃ cA : ClassId, ArrOfT s cA ty ∧ va_RA s cA ty := by
  obtain ⟨cA, kA, comp, h1, h2, h3⟩ := Cond.arrayClass_spec h
  refine ⟨cA, fun n z => ⟨fun k h => (by cases h), kA, h2, comp, h3⟩, ?_⟩
  cases ty <;> first | exact h1 | exact absurd rfl (hno _)
theorem iS_c : ∀ n c, 2 ≤ c → itr iSs zS n c = zS c
  | 0, _, _ => rfl
  | n + 1, c, h => by
    show iSs n (itr iSs zS n) c = zS c
    unfold iSs
    rw [u2_c _ _ _ (by omega), u2_c _ _ _ (by omega)]
    exact iS_c n c h
theorem iC_c : ∀ n c, 2 ≤ c → itr iCs zC n c = zC c
  | 0, _, _ => rfl
  | n + 1, c, h => by
    show iCs n (itr iCs zC n) c = zC c
    unfold iCs c2
    rw [if_neg (by omega), if_neg (by omega)]
    exact iC_c n c h
theorem iS_2 {c : Nat} (h : 2 ≤ c) (i : Nat) : iS c i = 0 := congrFun (iS_c 12 c h) i
theorem iC_2 {c : Nat} (h : 2 ≤ c) (i : Nat) : iC c i = 0 := congrFun (iC_c 12 c h) i
theorem iX_ok : Xok iC := by
  unfold Xok
  decide +kernel
theorem iW_ok : ∀ b, b < 12 → 0 ≤ (iS 0 b).toInt ∧ (iS 0 b).toInt ≤ 50000 := by decide +kernel
theorem iH_ok : (∀ b, b < 12 → 0 ≤ (iS 1 b).toInt ∧ (iS 1 b).toInt ≤ 25000000) ∧ ht iS ≤ 300000000 := by decide +kernel
theorem hv_new : Hv iC zN iS 0 := by
  have z6 := congrArg Int64.toInt (iS_2 (c := 12) (by decide) 6)
  have z7 := congrArg Int64.toInt (iS_2 (c := 12) (by decide) 7)
  have e0 : (0 : Int64).toInt = 0 := by decide
  rw [e0] at z6 z7
  refine ⟨fun u h => absurd h (Nat.not_lt_zero u), fun _ b hb => (iH_ok.1 b hb).2, ⟨fun b hb => (iH_ok.1 b hb).1, ?_⟩, ?_⟩
  · have := iH_ok.2
    omega
  · unfold Sv
    rw [z6, z7]
    decide
theorem li_new : LI iC zN iS iC zN iS 0 := by
  have hz : ZB iC zN iS := ⟨fun c w a _ _ _ => iS_2 (by omega) w, fun c w a _ _ _ => iC_2 (by omega) w, fun c w a _ _ _ => iC_2 (by omega) w, fun c w a _ _ _ => iC_2 (by omega) w, fun c w a _ _ _ => iS_2 (by omega) w, fun k w _ _ _ => iS_2 (by decide) _⟩
  have e13 := iS_2 (c := 13) (by decide) 0
  have e14 := iS_2 (c := 14) (by decide) 0
  have n0 : ∀ w, ¬ w < zN 0 := fun w h => absurd h (Nat.not_lt_zero w)
  have n2 : ∀ w, ¬ w < zN 2 := fun w h => absurd h (Nat.not_lt_zero w)
  refine ⟨⟨⟨Nat.zero_le _, Nat.zero_le _, Nat.zero_le _, fun w h => absurd h (n0 w), fun w h => absurd h (n0 w), fun w h => absurd h (n2 w)⟩, ?_, iX_ok, fun w h => absurd h (n0 w), hz, fun b hb => ?_, ⟨fun w h => absurd h (n0 w), fun w h => absurd h (n0 w), ?_⟩, ?_, ⟨?_, ?_⟩, fun w h => absurd h (n0 w), fun w h => absurd h (n2 w)⟩, by decide, hz, Nat.le_refl _, Nat.le_refl _, Nat.le_refl _, hv_new⟩
  · unfold Rok
    rw [iC_2 (by decide)]
    decide
  · have := iW_ok b hb
    omega
  · rw [e13]
    decide
  · rw [e13]
    decide
  · unfold qN
    rw [e14]
    decide
  · unfold qN
    rw [e14]
    decide
theorem whole_start {p : Program} {e : Env} {s : State} {m : MethodId} {below : List Frame} {meth : Method} {c : Code} (l : Launch) (hflags : l.flags = flags0) {b L : Nat} {xs : Nat → Int32} (hL : L ≤ 2048) (C0 : lw_At p s m meth c b L xs) : W p l e room_1 s m #[Value.ref b] below meth c s.heap [] 0 0 (lw_Z below #[Value.ref b] s) (entryFrame m ([Value.ref b] : List Value).toArray 8) := by
  obtain ⟨hx, hb, hr, hml, hown, hts, hX, hbl, hlocks, hgv⟩ := id C0
  have hl0 : l.stackTraces = false := by unfold Launch.stackTraces; rw [hflags]; decide +kernel
  have hwd : ∀ w ∈ wsL_law, w.before #[Value.ref b] s = true := fun w h => hts w (wi_all w h)
  have hfl := flat_of_before _ hgv
  obtain ⟨c0, iS0, hKn0⟩ := u_known (C := RX0) (T := TX0) (N := 11) (n := 11) hwd inlX0 (hwd _ kB_RX0)
  obtain ⟨c1, iS1, hKn1⟩ := u_known (C := RX1) (T := TX1) (N := 9) (n := 9) hwd inlX1 (hwd _ kB_RX1)
  obtain ⟨c2, iS2, hKn2⟩ := u_known (C := RX2) (T := TX2) (N := 4) (n := 4) hwd inlX2 (hwd _ kB_RX2)
  obtain ⟨c3, iS3, hKn3⟩ := u_known (C := RX3) (T := TX3) (N := 7) (n := 7) hwd inlX3 (hwd _ kB_RX3)
  obtain ⟨c4, iS4, hKn4⟩ := u_known (C := RX4) (T := TX4) (N := 3) (n := 3) hwd inlX4 (hwd _ kB_RX4)
  obtain ⟨c5, iS5, hKn5⟩ := u_known (C := RX5) (T := TX5) (N := 9) (n := 9) hwd inlX5 (hwd _ kB_RX5)
  obtain ⟨c6, iS6, hKn6⟩ := u_known (C := RX6) (T := TX6) (N := 2) (n := 2) hwd inlX6 (hwd _ kB_RX6)
  obtain ⟨c7, iS7, hKn7⟩ := u_known (C := RX7) (T := TX7) (N := 21) (n := 21) hwd inlX7 (hwd _ kB_RX7)
  obtain ⟨dC, dI, hKc⟩ : ∃ (dC : Nat → ClassId) (dI : Nat → Nat → Nat), ∀ (k : Nat) (q : vw_C), vwCl[k]? = some q → u_Kn s q.1 q.2.1 q.2.2 (dC k) (dI k) := by
    refine ⟨fun k => if k = 0 then c0 else if k = 1 then c1 else if k = 2 then c2 else if k = 3 then c3 else if k = 4 then c4 else if k = 5 then c5 else if k = 6 then c6 else c7, fun k => if k = 0 then iS0 else if k = 1 then iS1 else if k = 2 then iS2 else if k = 3 then iS3 else if k = 4 then iS4 else if k = 5 then iS5 else if k = 6 then iS6 else iS7, ?_⟩
    intro k q hq
    match k, hq with
    | 0, hq => cases hq; exact hKn0
    | 1, hq => cases hq; exact hKn1
    | 2, hq => cases hq; exact hKn2
    | 3, hq => cases hq; exact hKn3
    | 4, hq => cases hq; exact hKn4
    | 5, hq => cases hq; exact hKn5
    | 6, hq => cases hq; exact hKn6
    | 7, hq => cases hq; exact hKn7
    | k + 8, hq => simp [vwCl] at hq
  obtain ⟨cI, hArI, hRaI⟩ := st_arr (hwd _ kA_int) (fun C z => by cases z)
  obtain ⟨cJ, hArJ, hRaJ⟩ := st_arr (hwd _ kA_long) (fun C z => by cases z)
  obtain ⟨cZ, hArZ, hRaZ⟩ := st_arr (hwd _ kA_boolean) (fun C z => by cases z)
  have hK : g_Kn (dC, dI) cI cJ cZ s := by
    refine ⟨⟨hKc, fun k q hk => ?_⟩, fun w hw => va_Nw.of rfl (hts _ (st_nest w hw))⟩
    match k, hk with
    | 0, hk => cases hk; exact ⟨hArI, hRaI⟩
    | 1, hk => cases hk; exact ⟨hArJ, hRaJ⟩
    | 2, hk => cases hk; exact ⟨hArZ, hRaZ⟩
    | k + 3, hk => simp [g_tys] at hk
  have hsr : ∀ {i : Nat} {tx : String}, Cond.stringRef RX6 i tx ∈ lw_tbl → ∃ a, vk_R RX6 i tx a s := fun {i tx} h => by
    have h1 := hts _ h
    obtain ⟨cur, hcur⟩ : ∃ cur, s.vm.findClass RX6 = some cur := ⟨_, hKn6.2.1⟩
    obtain ⟨_, _, _, a, _, _, _, _, _, h2⟩ := Cond.stringRef_spec hcur h1
    exact ⟨a, vk_R.of h1 h2⟩
  have hZv : g_Zv s := by
    refine ⟨hsr st_s1, hsr st_s2, hsr st_s3, fun y hy => va_Nw.of rfl (hts _ (st_ds y hy)), fun y hy => va_Nw.of rfl (hts _ (st_cs y hy)), fun y hy z hz hne => ?_⟩
    simp only [g_xs, List.mem_cons, List.not_mem_nil, or_false] at hy hz
    rcases hy with rfl | rfl | rfl <;> rcases hz with rfl | rfl | rfl <;> first | exact absurd rfl hne | exact va_Nc.of (hfl _ (by decide +kernel))
  have hno : ∀ a : Nat, a < s.heap.size → ¬ s.heap.size ≤ a := fun a h z => absurd h (Nat.not_lt.mpr z)
  have Y : g_Xx s.heap.size (fun q : Nat => s.heap.size ≤ q) s := ⟨⟨hZv, vx_Zqof (hts _ st_l1) (hts _ st_it) (hfl _ (by decide +kernel)) hno, vx_Zqof (hts _ st_l2) (hts _ st_it) (hfl _ (by decide +kernel)) hno, Nat.le_refl _⟩, fun _ h => h⟩
  have X : g_Cx p s m #[Value.ref b] c (dC, dI) (fun q : Nat => s.heap.size ≤ q) 8 cL_law RL cI cJ cZ := ⟨hx, hb, hml, hown, hwd, hK, fun _ h => h⟩
  have hbA : ¬ (fun q : Nat => s.heap.size ≤ q) b := Nat.not_le.mpr hbl
  have hEnd : ∀ (kc ks : Nat) (ws : va_W) (lv : List (Nat × Value)), kc ≤ 1116 → ks ≤ 10012 → g_G p l e room_1 s m #[Value.ref b] below meth c (dC, dI) (fun q : Nat => s.heap.size ≤ q) 8 kc ks (lw_Z below #[Value.ref b] s) ws lv 1370 [.int (nI 1)] := by
    intro kc ks ws lv h1 h2 H locs ls hP hD hS hl
    refine va_forget (fun q hq => hS.2.2 q hq) (W.widen h1 h2 (W.base ?_))
    exact lw_ret (Drawn.sameBut.refl s.drawn lw_cs) hx hb hr hlocks dL_law_1370
  have G : g_G p l e room_1 s m #[Value.ref b] below meth c (dC, dI) (fun q : Nat => s.heap.size ≤ q) 8 0 0 (lw_Z below #[Value.ref b] s) [] [(0, .ref b)] 0 [] := by
    refine g_new X inlX6 tyX6 tyX6_ok kQ_L_8 kB_RX6 kZ_RX6 (ci := 6) rfl [.null, .null] (by decide +kernel) (Nat.le_of_ble_eq_true rfl) (Nat.le_of_ble_eq_true rfl) dL_law_0 (fun q0 => ?_)
    refine g_dup X dL_law_3 rfl ?_
    refine g_callI (ret := none) X (As := []) (rest := [.ref q0]) (m_X6_init l (dC, dI) cI cJ cZ q0) kM_L_76 kI_yX6_init kZ_RX6 kC_yX6_init rfl hV_X6_init.2 rfl rfl rfl ⟨Nat.le_of_ble_eq_true rfl, Nat.le_of_ble_eq_true rfl⟩ ⟨Nat.le_of_ble_eq_true rfl, Nat.le_of_ble_eq_true rfl⟩ (Nat.le_of_ble_eq_true rfl) dL_law_4 rfl [0] rfl rfl (fun v w hv => ?_)
    obtain ⟨rfl, x, hx0, rfl⟩ := hv
    subst hx0
    refine ⟨wX2 x cI cJ cZ iC zN iS zQ zS iC zN iS zQ zS, em_new (r := []), ?_⟩
    refine g_astore_n X [(1, .ref (x 0)), (0, .ref b)] dL_law_7 rfl (Nat.le_of_ble_eq_true rfl) rfl ?_
    refine g_new X inlX7 tyX7 tyX7_ok kQ_L_77 kB_RX7 kZ_RX7 (ci := 7) rfl [.int 0, .null, .null, .null, .null, .int 0, .int 0, .null, .null, .null, .null, .int 0, .null, .null, .int 0, .null, .null, .null, .null, .null, .null] (by decide +kernel) (Nat.le_of_ble_eq_true rfl) (Nat.le_of_ble_eq_true rfl) dL_law_8 (fun q1 => ?_)
    refine g_dup X dL_law_11 rfl ?_
    refine g_callI (ret := none) X (As := []) (rest := [.ref q1]) (m_X7_init l (dC, dI) cI cJ cZ q1) kM_L_79 kI_yX7_init kZ_RX7 kC_yX7_init rfl hV_X7_init.2 rfl rfl rfl ⟨Nat.le_of_ble_eq_true rfl, Nat.le_of_ble_eq_true rfl⟩ ⟨Nat.le_of_ble_eq_true rfl, Nat.le_of_ble_eq_true rfl⟩ (Nat.le_of_ble_eq_true rfl) dL_law_12 rfl [71] rfl rfl (fun v w hv => ?_)
    obtain ⟨rfl, h, hh0, rfl⟩ := hv
    subst hh0
    refine ⟨wX2 x cI cJ cZ iC zN iS zQ zS iC zN iS zQ zS ++ wM h cI cJ cZ 0 iC zN iS zQ zQ zQ zS, em_new (r := wX2 x cI cJ cZ iC zN iS zQ zS iC zN iS zQ zS), ?_⟩
    refine g_astore_n X [(2, .ref (h 0)), (1, .ref (x 0)), (0, .ref b)] dL_law_15 rfl (Nat.le_of_ble_eq_true rfl) rfl ?_
    refine g_iconst X (v := nI 1) dL_law_16 (by decide +kernel) ?_
    refine g_newaJ X 1 rfl (Nat.le_of_ble_eq_true rfl) (Nat.le_of_ble_eq_true rfl) (Nat.le_of_ble_eq_true rfl) dL_law_17 (fun u => ?_)
    refine g_astore_n X [(3, .ref u), (2, .ref (h 0)), (1, .ref (x 0)), (0, .ref b)] dL_law_19 rfl (Nat.le_of_ble_eq_true rfl) rfl ?_
    refine g_iconst X (v := nI 0) dL_law_20 (by decide +kernel) ?_
    refine g_istore X [(4, .int (nI 0)), (3, .ref u), (2, .ref (h 0)), (1, .ref (x 0)), (0, .ref b)] dL_law_21 (Nat.le_of_ble_eq_true rfl) rfl ?_
    refine g_ws (ws' := wX2 x cI cJ cZ iC zN iS zQ zS iC zN iS zQ zS ++ (wM h cI cJ cZ 0 iC zN iS zQ zQ zQ zS ++ [(u, .inl (cJ, 1, .inr (.inl (fun _ => 0))))])) (List.append_assoc _ _ _) ?_
    refine g_swap ?_
    refine g_lv [(0, .ref b), (1, .ref (x 0)), (2, .ref (h 0)), (3, .ref u), (4, .int (nI (4 * 0)))] [4, 3, 2, 1, 0] rfl ?_
    intro H locs ls hP hD hS hl
    have hxx : ∀ i, i < 71 → s.heap.size ≤ x i := fun i hi => by
      have hm : (List.range 71).map x = (wX2 x cI cJ cZ iC zN iS zQ zS iC zN iS zQ zS).map Prod.fst := rfl
      have hmem : x i ∈ (wX2 x cI cJ cZ iC zN iS zQ zS iC zN iS zQ zS ++ ([((u, .inl (cJ, 1, .inr (.inl (fun _ => 0)))) : Nat × va_E)] ++ wM h cI cJ cZ 0 iC zN iS zQ zQ zQ zS)).map Prod.fst := by
        rw [List.map_append, ← hm]
        exact List.mem_append_left _ (List.mem_map.mpr ⟨i, List.mem_range.mpr hi, rfl⟩)
      obtain ⟨q, hq, hqe⟩ := List.mem_map.mp hmem
      obtain ⟨k, hk⟩ := List.getElem?_of_mem hq
      rw [← hqe]
      exact hD.2 k q hk
    have huu : s.heap.size ≤ u := by
      obtain ⟨k, hk⟩ := List.getElem?_of_mem (show (u, _) ∈ wX2 x cI cJ cZ iC zN iS zQ zS iC zN iS zQ zS ++ ([(u, .inl (cJ, 1, .inr (.inl (fun _ => 0))))] ++ wM h cI cJ cZ 0 iC zN iS zQ zQ zQ zS) from List.mem_append_right _ (List.mem_append_left _ List.mem_cons_self))
      exact hD.2 k _ hk
    exact n_law_loop l hl0 (dC, dI) cI cJ cZ s.heap.size x h u b L xs X Y hX hbl hbA hxx huu hL hEnd (L / 4) 0 _ _ iC zN iS zQ zS iC zN iS zQ zS (fun _ => 0) 0 zQ zQ zS 0 (by omega) (show 89 + L / 4 ≤ 1116 by omega) (show 1802 + 6 * (L / 4) ≤ 10012 by omega) li_new H locs ls hP hD hS hl
  have hP : va_P (dC, dI) vwCl [] s.heap := fun k q h => by simp at h
  have hD : va_D (fun q : Nat => s.heap.size ≤ q) [] := ⟨fun i j p q h => by simp at h, fun k q h => by simp at h⟩
  have hl := lv_entry ([.ref b]) (n := 8) (Nat.le_of_ble_eq_true rfl)
  rw [lg_entry_eq]
  exact G s.heap [] _ hP hD va_S.rf hl
