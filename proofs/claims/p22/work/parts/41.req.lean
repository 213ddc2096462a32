/-! what is asked of a call's arguments, and what is thrown -/
theorem inB_iff {v lo hi : Int32} : inB v lo hi = true ↔ ¬ v < lo ∧ ¬ hi < v := by
  unfold inB
  by_cases h1 : v < lo
  · rw [if_pos h1]
    exact ⟨fun z => absurd z (by decide), fun z => absurd h1 z.1⟩
  · rw [if_neg h1]
    by_cases h2 : hi < v
    · rw [if_pos h2]
      exact ⟨fun z => absurd z (by decide), fun z => absurd h2 z.2⟩
    · rw [if_neg h2]
      exact ⟨fun _ => ⟨h1, h2⟩, fun _ => rfl⟩
theorem ri_iff {v m : Int32} {n : Nat} (hm : nI n - nI 1 = m) (hn : n ≤ 1000) : inB v (nI 0) m = true ↔ ¬ v < 0 ∧ v < nI n := by
  have h : (¬ nI n - nI 1 < v) ↔ v < nI n := by
    rw [Int32.lt_iff_toInt_lt, Int32.lt_iff_toInt_lt, pk_sub_toInt (by omega) (by omega), nI_toInt (by omega)]
    omega
  rw [inB_iff, ← hm, show nI 0 = 0 by decide, h]
section GXC
variable {p : Program} {l : Launch} {e : Env} {R : Room} {s : State} {m : MethodId} {args : Array Value} {below : List Frame} {meth : Method} {c : Code} {D : va_G} {A : Nat → Prop} {nL kc ks : Nat} {cc : ByteArray} {own : String} {cI cJ cZ : ClassId} {Q : State → Prop} {ws ws' : va_W} {lv lv' : List (Nat × Value)} {pc : Nat} {st : List Value} {Φ : Option Value → va_W → Prop} {Ψ : String → va_W → Prop} {B0 : Nat}
/-- a static call of which it is known that it throws; nothing catches it here -/
theorem g_callSX (X : g_Cx p s m args c D A nL cc own cI cJ cZ) (Y : g_Xx B0 A s) (hT : ∀ x ∈ c.exceptionTable.toList, False) (hlk : meth.locks = false) {mc ms : Nat} (hQ : vx_MQ below (g_Post D A Φ) (g_PostX D A Ψ) args s mc ms A = Q) {y : MethodName} {b : ByteArray} {mL index na : Nat} {ret : Option FieldType} {rm : Room} {As rest : List Value} {E0 : String} (hC : g_CtX l D cI cJ cZ B0 y b mL ret rm 1 6 As [] (fun _ _ => False) (fun E w => E = E0 ∧ w = [])) (h1 : Cond.methodLink own index y ∈ wsL_law) (h2 : Cond.static y ∈ wsL_law) (h4 : Cond.initialized own ∈ wsL_law) (h5 : Cond.code y b mL ret ∈ wsL_law)
    (hy : y.cls = own ∧ y.cls ≠ "java/lang/invoke/MethodHandle" ∧ y.cls ≠ "java/lang/invoke/VarHandle" ∧ (parseMethodDescriptor y.desc).map (fun d => d.parameters.length) = some na) (hrc : rm.cells = 1) (hrs : rm.slots = 6) (hna : As.length = na) (hR : rm.frames + 1 ≤ R.frames ∧ 8 + (mL + 11) + rm.locals ≤ R.locals) (hf : kc + 1 ≤ R.cells ∧ ks + 6 ≤ R.slots) (hst : (rest.map fun v => v.category).sum ≤ 8) (hd : decode cc pc = .ok (.invokestatic index, 3)) {stk : List Value} (hstk : stk = As.reverse ++ rest) (EM : g_Emb ws [] [] ws) (hc : kc + 1 ≤ mc) (hs : ks + 6 ≤ ms) (hΨ : Ψ E0 ws) : g_G p l e R s m args below meth c D A nL kc ks Q ws lv pc stk := by
  subst hQ
  intro H locs ls hP hD hS hl
  have hn1 : va_P D vwCl [] H := fun k q h => by simp at h
  have hn2 : va_D (fun _ => True) ([] : va_W) := ⟨fun i j p q h => by simp at h, fun k q h => by simp at h⟩
  refine g_afterX (isC := []) X (vx_runS (As := As) (rest := rest) ⟨X.1, X.2.1, X.2.2.1, X.2.2.2.1, X.2.2.2.2.1⟩ (hC H.size) (cwS na X.2.2.2.2.1 (g_goodS h1 h2 h4 h5) rfl hrc hrs hy hR) ⟨g_blindX, fun U hU hW => ⟨⟨rfl, by rw [hU], by rw [hU]; exact hn1, g_Kn.warm hW X.2.2.2.2.2.1, hn2⟩, by rw [hU]; exact g_Zk.go hW Y.2 hS Y.1⟩⟩ rfl hna hl.1 hstk (lv_room hst) hd hf) hP hD hS hl rfl (fun v w h => h.elim) (fun E w h => ?_)
  obtain ⟨rfl, rfl⟩ := h
  exact ⟨ws, EM, fun H1 locs1 ce q9 hP1 hD1 hS1 hce hcv hcl => g_out hT hlk hP1 hD1 hS1 hce hcv hcl hc hs hΨ⟩
end GXC
theorem kG_I : ∀ w ∈ (vx_atS RX6 157 xI xUp).filter goodWord, w ∈ wsL_law := fun w h => List.mem_append_left _ (List.mem_append_left _ (List.mem_append_right _ h))
theorem kG_A : ∀ w ∈ (vx_atS RX6 164 xA xUp).filter goodWord, w ∈ wsL_law := fun w h => List.mem_append_left _ (List.mem_append_right _ h)
theorem kG_S : ∀ w ∈ (vx_atS RX6 169 xS xUp).filter goodWord, w ∈ wsL_law := fun w h => List.mem_append_right _ h
def g_bad (x : String) : List Cond := [.declares (Bundle.initS "java/lang/RuntimeException"), .declares (Bundle.initS "java/lang/Exception"), .declares (Bundle.initS Bundle.tN), .castable x x]
theorem g_badOk {x : String} (hx : x ∈ g_xs) {s : State} {args : Array Value} (h : g_Zv s) : ∀ w ∈ g_bad x, w.before args s = true :=
  vx_c (va_Nw.use rfl (h.2.2.2.1 _ (List.mem_cons_self))) (vx_c (va_Nw.use rfl (h.2.2.2.1 _ (List.mem_cons_of_mem _ List.mem_cons_self))) (vx_c (va_Nw.use rfl (h.2.2.2.1 _ (List.mem_cons_of_mem _ (List.mem_cons_of_mem _ List.mem_cons_self)))) (vx_c (va_Nw.use rfl (h.2.2.2.2.1 _ hx)) vx_n)))
theorem kU_I : ∀ w ∈ (vx_atS RX6 157 xI xUp).filter (fun w => !goodWord w), w ∈ g_bad xI := by decide +kernel
theorem kU_A : ∀ w ∈ (vx_atS RX6 164 xA xUp).filter (fun w => !goodWord w), w ∈ g_bad xA := by decide +kernel
theorem kU_S : ∀ w ∈ (vx_atS RX6 169 xS xUp).filter (fun w => !goodWord w), w ∈ g_bad xS := by decide +kernel
theorem kO_I : ∀ w ∈ Cond.classLink RX6 153 xI :: Cond.initialized xI :: vx_atS RX6 157 xI xUp, vx_ot w = true := by decide +kernel
theorem kO_A : ∀ w ∈ Cond.classLink RX6 160 xA :: Cond.initialized xA :: vx_atS RX6 164 xA xUp, vx_ot w = true := by decide +kernel
theorem kO_S : ∀ w ∈ Cond.classLink RX6 165 xS :: Cond.initialized xS :: vx_atS RX6 169 xS xUp, vx_ot w = true := by decide +kernel
theorem hV_X6_requireIndex : yX6_requireIndex.cls = RX6 ∧ yX6_requireIndex.cls ≠ "java/lang/invoke/MethodHandle" ∧ yX6_requireIndex.cls ≠ "java/lang/invoke/VarHandle" ∧ (parseMethodDescriptor yX6_requireIndex.desc).map (fun d => d.parameters.length) = some 2 := by decide +kernel
theorem hV_X6_requireRange : yX6_requireRange.cls = RX6 ∧ yX6_requireRange.cls ≠ "java/lang/invoke/MethodHandle" ∧ yX6_requireRange.cls ≠ "java/lang/invoke/VarHandle" ∧ (parseMethodDescriptor yX6_requireRange.desc).map (fun d => d.parameters.length) = some 3 := by decide +kernel
theorem hV_X6_requireArgument : yX6_requireArgument.cls = RX6 ∧ yX6_requireArgument.cls ≠ "java/lang/invoke/MethodHandle" ∧ yX6_requireArgument.cls ≠ "java/lang/invoke/VarHandle" ∧ (parseMethodDescriptor yX6_requireArgument.desc).map (fun d => d.parameters.length) = some 1 := by decide +kernel
theorem hV_X6_requireState : yX6_requireState.cls = RX6 ∧ yX6_requireState.cls ≠ "java/lang/invoke/MethodHandle" ∧ yX6_requireState.cls ≠ "java/lang/invoke/VarHandle" ∧ (parseMethodDescriptor yX6_requireState.desc).map (fun d => d.parameters.length) = some 1 := by decide +kernel
abbrev rm_X6_requireArgument : Room := { frames := 0, cells := 0, slots := 0, locals := 0 }
abbrev rm_X6_requireState : Room := { frames := 0, cells := 0, slots := 0, locals := 0 }
abbrev rm_X6_requireIndex : Room := { frames := 0, cells := 0, slots := 0, locals := 0 }
abbrev rm_X6_requireRange : Room := { frames := 1, cells := 0, slots := 0, locals := 20 }
abbrev rm_X6_requireArgumentX : Room := { frames := 6, cells := 1, slots := 6, locals := 82 }
abbrev rm_X6_requireStateX : Room := { frames := 6, cells := 1, slots := 6, locals := 82 }
abbrev rm_X6_requireIndexX : Room := { frames := 6, cells := 1, slots := 6, locals := 82 }
abbrev rm_X6_requireRangeX : Room := { frames := 7, cells := 1, slots := 6, locals := 102 }
theorem g_bwN (B0 : Nat) : g_Bw B0 [] := fun k q h => by simp at h
theorem m_X6_requireArgument (l : Launch) (D : va_G) (cI cJ cZ : ClassId) (b : Bool) (hb : b = true) : g_Ct l D cI cJ cZ yX6_requireArgument cX6_requireArgument 1 none rm_X6_requireArgument 0 0 [.int (bI b)] [] (g_eq none []) := by
  refine g_body RX6 [(0, .int (bI b))] kH_X6 rfl (Nat.le_of_ble_eq_true rfl) rfl ?_
  intro p e s m args below meth c A X hr hlk hmn Q hQ
  refine g_iload_n X 0 dX6_requireArgument_0 rfl rfl ?_
  refine g_bI_ne X (tgt := 14) dX6_requireArgument_1 (by decide) (fun h => ?_) (fun h => absurd (hb.symm.trans h) (by decide))
  exact g_vret X hr hlk hQ dX6_requireArgument_14 ⟨rfl, rfl⟩
theorem m_X6_requireArgumentX (l : Launch) (hl0 : l.stackTraces = false) (D : va_G) (cI cJ cZ : ClassId) (B0 : Nat) (b : Bool) (hb : b = false) : g_CtX l D cI cJ cZ B0 yX6_requireArgument cX6_requireArgument 1 none rm_X6_requireArgumentX 1 6 [.int (bI b)] [] (fun _ _ => False) (fun E w => E = xA ∧ w = []) := by
  refine g_bodyX RX6 [(0, .int (bI b))] kH_X6 rfl (Nat.le_of_ble_eq_true rfl) rfl (g_bwN B0) ?_
  intro p e s m args below meth c A X Y hT hr hlk hmn Q hQ
  refine g_iload_n X 0 dX6_requireArgument_0 rfl rfl ?_
  refine g_bI_ne X (tgt := 14) dX6_requireArgument_1 (by decide) (fun h => absurd (hb.symm.trans h) (by decide)) (fun h => ?_)
  obtain ⟨a, ha⟩ := Y.1.1.2.1
  exact g_throwS X Y hT hl0 hlk hQ (by decide +kernel) kQ_X6_160 kZ_IllegalArgumentException ha (vx_hat (fun w hw => X.2.2.2.2.1 w (kG_A w hw)) kU_A (g_badOk (by decide) Y.1.1)) kO_A dX6_requireArgument_4 dX6_requireArgument_7 dX6_requireArgument_8 dX6_requireArgument_10 dX6_requireArgument_13 (by decide) (by decide) (by decide) (by decide) (by decide) (by decide) ⟨rfl, rfl⟩
theorem m_X6_requireState (l : Launch) (D : va_G) (cI cJ cZ : ClassId) (b : Bool) (hb : b = true) : g_Ct l D cI cJ cZ yX6_requireState cX6_requireState 1 none rm_X6_requireState 0 0 [.int (bI b)] [] (g_eq none []) := by
  refine g_body RX6 [(0, .int (bI b))] kH_X6 rfl (Nat.le_of_ble_eq_true rfl) rfl ?_
  intro p e s m args below meth c A X hr hlk hmn Q hQ
  refine g_iload_n X 0 dX6_requireState_0 rfl rfl ?_
  refine g_bI_ne X (tgt := 14) dX6_requireState_1 (by decide) (fun h => ?_) (fun h => absurd (hb.symm.trans h) (by decide))
  exact g_vret X hr hlk hQ dX6_requireState_14 ⟨rfl, rfl⟩
theorem m_X6_requireStateX (l : Launch) (hl0 : l.stackTraces = false) (D : va_G) (cI cJ cZ : ClassId) (B0 : Nat) (b : Bool) (hb : b = false) : g_CtX l D cI cJ cZ B0 yX6_requireState cX6_requireState 1 none rm_X6_requireStateX 1 6 [.int (bI b)] [] (fun _ _ => False) (fun E w => E = xS ∧ w = []) := by
  refine g_bodyX RX6 [(0, .int (bI b))] kH_X6 rfl (Nat.le_of_ble_eq_true rfl) rfl (g_bwN B0) ?_
  intro p e s m args below meth c A X Y hT hr hlk hmn Q hQ
  refine g_iload_n X 0 dX6_requireState_0 rfl rfl ?_
  refine g_bI_ne X (tgt := 14) dX6_requireState_1 (by decide) (fun h => absurd (hb.symm.trans h) (by decide)) (fun h => ?_)
  obtain ⟨a, ha⟩ := Y.1.1.2.2.1
  exact g_throwS X Y hT hl0 hlk hQ (by decide +kernel) kQ_X6_165 kZ_IllegalStateException ha (vx_hat (fun w hw => X.2.2.2.2.1 w (kG_S w hw)) kU_S (g_badOk (by decide) Y.1.1)) kO_S dX6_requireState_4 dX6_requireState_7 dX6_requireState_8 dX6_requireState_10 dX6_requireState_13 (by decide) (by decide) (by decide) (by decide) (by decide) (by decide) ⟨rfl, rfl⟩
theorem m_X6_requireIndex (l : Launch) (D : va_G) (cI cJ cZ : ClassId) (v : Int32) (n : Nat) (q : Int32) (hq : nI n - nI 1 = q) (hn : n ≤ 1000) (hb : inB v (nI 0) q = true) : g_Ct l D cI cJ cZ yX6_requireIndex cX6_requireIndex 2 none rm_X6_requireIndex 0 0 [.int v, .int (nI n)] [] (g_eq none []) := by
  refine g_body RX6 [(0, .int v), (1, .int (nI n))] kH_X6 rfl (Nat.le_of_ble_eq_true rfl) rfl ?_
  intro p e s m args below meth c A X hr hlk hmn Q hQ
  have hi := (ri_iff hq hn).mp hb
  refine g_iload_n X 0 dX6_requireIndex_0 rfl rfl ?_
  refine g_if_lt X (tgt := 9) dX6_requireIndex_1 (by decide) (fun h => absurd h hi.1) (fun h => ?_)
  refine g_iload_n X 0 dX6_requireIndex_4 rfl rfl ?_
  refine g_iload_n X 1 dX6_requireIndex_5 rfl rfl ?_
  refine g_icmp_lt X (tgt := 19) dX6_requireIndex_6 (by decide) (fun h => ?_) (fun h => absurd hi.2 h)
  exact g_vret X hr hlk hQ dX6_requireIndex_19 ⟨rfl, rfl⟩
theorem m_X6_requireIndexX (l : Launch) (hl0 : l.stackTraces = false) (D : va_G) (cI cJ cZ : ClassId) (B0 : Nat) (v : Int32) (n : Nat) (q : Int32) (hq : nI n - nI 1 = q) (hn : n ≤ 1000) (hb : inB v (nI 0) q = false) : g_CtX l D cI cJ cZ B0 yX6_requireIndex cX6_requireIndex 2 none rm_X6_requireIndexX 1 6 [.int v, .int (nI n)] [] (fun _ _ => False) (fun E w => E = xI ∧ w = []) := by
  refine g_bodyX RX6 [(0, .int v), (1, .int (nI n))] kH_X6 rfl (Nat.le_of_ble_eq_true rfl) rfl (g_bwN B0) ?_
  intro p e s m args below meth c A X Y hT hr hlk hmn Q hQ
  have K : g_G p l e rm_X6_requireIndexX s m args below meth c D A 2 0 0 Q [] [(0, .int v), (1, .int (nI n))] 9 [] := by
    obtain ⟨a, ha⟩ := Y.1.1.1
    exact g_throwS X Y hT hl0 hlk hQ (by decide +kernel) kQ_X6_153 kZ_IndexOutOfBoundsException ha (vx_hat (fun w hw => X.2.2.2.2.1 w (kG_I w hw)) kU_I (g_badOk (by decide) Y.1.1)) kO_I dX6_requireIndex_9 dX6_requireIndex_12 dX6_requireIndex_13 dX6_requireIndex_15 dX6_requireIndex_18 (by decide) (by decide) (by decide) (by decide) (by decide) (by decide) ⟨rfl, rfl⟩
  refine g_iload_n X 0 dX6_requireIndex_0 rfl rfl ?_
  refine g_if_lt X (tgt := 9) dX6_requireIndex_1 (by decide) (fun h => K) (fun h => ?_)
  refine g_iload_n X 0 dX6_requireIndex_4 rfl rfl ?_
  refine g_iload_n X 1 dX6_requireIndex_5 rfl rfl ?_
  exact g_icmp_lt X (tgt := 19) dX6_requireIndex_6 (by decide) (fun h2 => absurd ((ri_iff hq hn).mpr ⟨h, h2⟩) (by rw [hb]; decide)) (fun h => K)
theorem m_X6_requireRange (l : Launch) (D : va_G) (cI cJ cZ : ClassId) (v lo hi : Int32) (hb : inB v lo hi = true) : g_Ct l D cI cJ cZ yX6_requireRange cX6_requireRange 3 none rm_X6_requireRange 0 0 [.int v, .int lo, .int hi] [] (g_eq none []) := by
  refine g_body RX6 [(0, .int v), (1, .int lo), (2, .int hi)] kH_X6 rfl (Nat.le_of_ble_eq_true rfl) rfl ?_
  intro p e s m args below meth c A X hr hlk hmn Q hQ
  have h9 := inB_iff.mp hb
  refine g_iload_n X 0 dX6_requireRange_0 rfl rfl ?_
  refine g_iload_n X 1 dX6_requireRange_1 rfl rfl ?_
  refine g_icmp_lt X (tgt := 14) dX6_requireRange_2 (by decide) (fun h => absurd h h9.1) (fun h => ?_)
  refine g_iload_n X 0 dX6_requireRange_5 rfl rfl ?_
  refine g_iload_n X 2 dX6_requireRange_6 rfl rfl ?_
  refine g_icmp_gt X (tgt := 14) dX6_requireRange_7 (by decide) (fun h => absurd h h9.2) (fun h => ?_)
  refine g_iconst X (v := bI true) dX6_requireRange_10 (by decide +kernel) ?_
  refine g_goto X (tgt := 15) dX6_requireRange_11 (by decide) ?_
  refine g_callS X (As := [.int (bI true)]) (rest := []) (m_X6_requireArgument l D cI cJ cZ true rfl) kM_X6_53 kT_yX6_requireArgument kZ_RX6 kC_yX6_requireArgument hV_X6_requireArgument rfl rfl rfl ⟨Nat.le_of_ble_eq_true rfl, Nat.le_of_ble_eq_true rfl⟩ ⟨Nat.le_of_ble_eq_true rfl, Nat.le_of_ble_eq_true rfl⟩ (Nat.le_of_ble_eq_true rfl) dX6_requireRange_15 rfl [] rfl rfl (g_kk1 (w2 := []) ⟨[], [], [], [], rfl, rfl, rfl, rfl, by decide, rfl, rfl⟩ ?_)
  exact g_vret X hr hlk hQ dX6_requireRange_18 ⟨rfl, rfl⟩
theorem m_X6_requireRangeX (l : Launch) (hl0 : l.stackTraces = false) (D : va_G) (cI cJ cZ : ClassId) (B0 : Nat) (v lo hi : Int32) (hb : inB v lo hi = false) : g_CtX l D cI cJ cZ B0 yX6_requireRange cX6_requireRange 3 none rm_X6_requireRangeX 1 6 [.int v, .int lo, .int hi] [] (fun _ _ => False) (fun E w => E = xA ∧ w = []) := by
  refine g_bodyX RX6 [(0, .int v), (1, .int lo), (2, .int hi)] kH_X6 rfl (Nat.le_of_ble_eq_true rfl) rfl (g_bwN B0) ?_
  intro p e s m args below meth c A X Y hT hr hlk hmn Q hQ
  have K : g_G p l e rm_X6_requireRangeX s m args below meth c D A 3 0 0 Q [] [(0, .int v), (1, .int lo), (2, .int hi)] 14 [] := by
    refine g_iconst X (v := bI false) dX6_requireRange_14 (by decide +kernel) ?_
    exact g_callSX X Y hT hlk hQ (As := [.int (bI false)]) (rest := []) (m_X6_requireArgumentX l hl0 D cI cJ cZ B0 false rfl) kM_X6_53 kT_yX6_requireArgument kZ_RX6 kC_yX6_requireArgument hV_X6_requireArgument rfl rfl rfl ⟨Nat.le_of_ble_eq_true rfl, Nat.le_of_ble_eq_true rfl⟩ ⟨Nat.le_of_ble_eq_true rfl, Nat.le_of_ble_eq_true rfl⟩ (Nat.le_of_ble_eq_true rfl) dX6_requireRange_15 rfl ⟨[], [], [], [], rfl, rfl, rfl, rfl, by decide, rfl, rfl⟩ (Nat.le_of_ble_eq_true rfl) (Nat.le_of_ble_eq_true rfl) ⟨rfl, rfl⟩
  refine g_iload_n X 0 dX6_requireRange_0 rfl rfl ?_
  refine g_iload_n X 1 dX6_requireRange_1 rfl rfl ?_
  refine g_icmp_lt X (tgt := 14) dX6_requireRange_2 (by decide) (fun h => K) (fun h => ?_)
  refine g_iload_n X 0 dX6_requireRange_5 rfl rfl ?_
  refine g_iload_n X 2 dX6_requireRange_6 rfl rfl ?_
  exact g_icmp_gt X (tgt := 14) dX6_requireRange_7 (by decide) (fun h => K) (fun h2 => absurd (inB_iff.mpr ⟨h, h2⟩) (by rw [hb]; decide))
def eA (k : Nat) : String := if k = 1 then xI else if k = 2 then xA else xS
def eB (k : Nat) : String := if k = 1 then xI else xS
def eC (k : Nat) : String := if k = 1 then xA else xS
