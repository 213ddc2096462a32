/-! MY LAYER, ITS LAST PART: static methods that catch -/
def g_wzW (y : MethodName) (b : ByteArray) (n : Nat) (ret : Option FieldType) (hh : List (Nat × Nat × Nat × Nat)) : List Cond := .codeWith y b n ret hh :: wsL_law
theorem Met.ofWH9 {l : Launch} {y : MethodName} {ws ws' : List Cond} {rm : Room} {Pc : Array Value → State → Prop} {Qc : Array Value → State → Outcome → State → Prop} {mc ms : Nat} {free : Addr → Prop} {cc : ByteArray} {maxL : Nat} {ret : Option FieldType} {hh : List (Nat × Nat × Nat × Nat)}
    (hy : plainName y.cls = true) (hw : ws = Cond.codeWith y cc maxL ret hh :: ws')
    (body : ∀ p e s m args below meth c s₁, BodyLoose p l y (headSpec ws rm) cc maxL ret e s m args below meth c s₁ → c.maxLocals = maxL → Pc args s →
      W p l e (headSpec ws rm).room s m args below meth c s.heap [] 0 0 (MQ below Qc args s mc ms free) (entryFrame m args maxL)) : Met l y ws rm Pc Qc mc ms free := by
  refine MetFree.of_bodyS (code := cc) (maxLocals := maxL) (ret := ret) hy ?_ ?_
  · intro args s m h hn
    obtain ⟨m9, meth, c, hn9, h1, h2, h3, h4, -, h5, h6, -⟩ := Cond.codeWith_spec (atoms_spec (ws := ws) h _ (by rw [hw]; exact List.mem_cons_self))
    cases hn.symm.trans hn9
    exact ⟨meth, c, h1, h2, h3, h4, h5, h6⟩
  · intro p e s m args below meth c s₁ B hml hP _
    have hh0 : s₁.heap = s.heap := by rw [B.state]; rfl
    obtain ⟨t, a1, o, b1, b2, b3⟩ := body p e s m args below meth c s₁ B hml hP s₁ hh0 (Stand.of_body B)
    exact ⟨t, o, a1, b1, b2, ⟨b3.1, b3.2⟩⟩
def g_CtW (l : Launch) (D : va_G) (cI cJ cZ : ClassId) (B0 : Nat) (y : MethodName) (b : ByteArray) (mL : Nat) (ret : Option FieldType) (hh : List (Nat × Nat × Nat × Nat)) (rm : Room) (mc ms : Nat) (as : List Value) (ws : va_W) (Φ : Option Value → va_W → Prop) : Prop :=
  ∀ sz : Nat, Met l y (g_wzW y b mL ret hh) rm (g_PreX D cI cJ cZ B0 as ws sz) (g_Post D (va_A ws sz) Φ) mc ms (va_A ws sz)
theorem g_bodyW {l : Launch} {D : va_G} {cI cJ cZ : ClassId} {B0 : Nat} {y : MethodName} {b : ByteArray} {mL : Nat} {ret : Option FieldType} {hh : List (Nat × Nat × Nat × Nat)} {rm : Room} {mc ms : Nat} {as : List Value} {ws : va_W} {Φ : Option Value → va_W → Prop} (own : String) (lv : List (Nat × Value)) (hy : plainName y.cls = true) (ho : y.cls = own) (hen : (lg_sl as).length ≤ mL) (hlv : lv_args 0 as = lv) (hB : g_Bw B0 ws)
    (body : ∀ (p : Program) (e : Env) (s : State) (m : MethodId) (args : Array Value) (below : List Frame) (meth : Method) (c : Code) (A : Nat → Prop), g_Cx p s m args c D A mL b own cI cJ cZ → g_Xx B0 A s → c.exceptionTable.toList = tableOf hh → meth.sig.returnType = ret → meth.locks = false → meth.name = y.name → ∀ Q : State → Prop, MQ below (g_Post D A Φ) args s mc ms A = Q → g_G p l e rm s m args below meth c D A mL 0 0 Q ws lv 0 []) : g_CtW l D cI cJ cZ B0 y b mL ret hh rm mc ms as ws Φ := by
  intro sz
  refine Met.ofWH9 (cc := b) (maxL := mL) (ret := ret) (hh := hh) hy rfl ?_
  intro p e s m args below meth c s₁ B hml hv
  obtain ⟨⟨rfl, hsz, hP, hK, hD0⟩, hZ⟩ := hv
  have hts := atoms_spec (ws := g_wzW y b mL ret hh) B.pre
  have hT := vx_table (x := y) B (hts _ List.mem_cons_self)
  subst hsz
  have hown : s.vm.findClass own = some m.cls := by rw [← ho]; exact findClass_of_methodNamed B.named
  have hD := hD0.self (sz := s.heap.size)
  rw [lg_entry_eq]
  subst hlv
  refine body p e s m _ below meth c (va_A ws s.heap.size) ⟨B.exec, B.bytes, hml, hown, fun w h => hts w (List.mem_cons_of_mem _ h), hK, fun q h => Or.inr h⟩ ⟨hZ, fun q hq => ?_⟩ hT B.returns B.notSynchronized (name_of_methodNamed B.named B.method).1 _ rfl s.heap [] _ hP hD va_S.rf (lv_entry as hen)
  rcases hq with ⟨k, e, h⟩ | h
  · exact hB k _ h
  · exact Nat.le_trans hZ.2.2.2 h
section GXW
variable {p : Program} {l : Launch} {e : Env} {R : Room} {s : State} {m : MethodId} {args : Array Value} {below : List Frame} {meth : Method} {c : Code} {D : va_G} {A : Nat → Prop} {nL kc ks : Nat} {cc : ByteArray} {own : String} {cI cJ cZ : ClassId} {Q : State → Prop} {ws ws' : va_W} {lv lv' : List (Nat × Value)} {pc : Nat} {st : List Value} {Φ : Option Value → va_W → Prop} {Ψ : String → va_W → Prop} {B0 : Nat}
/-- a call of which it is known that it throws; it is caught here -/
theorem g_callVC (X : g_Cx p s m args c D A nL cc own cI cJ cZ) (Y : g_Xx B0 A s) {y : MethodName} {b : ByteArray} {mL index na : Nat} {ret : Option FieldType} {rm : Room} {As rest : List Value} {wc : va_W} {a0 ci : Nat} {C : String} {T : u_T} {N : Nat} {fs : List Value} {E0 : String} (hC : g_CtX l D cI cJ cZ B0 y b mL ret rm 1 6 (.ref a0 :: As) wc (fun _ _ => False) (fun E w => E = E0 ∧ w = wc)) (h1 : Cond.methodLink own index y ∈ wsL_law) (h2 : Cond.instanceMethod y ∈ wsL_law) (h3 : Cond.selects C y y ∈ wsL_law) (h4 : Cond.initialized C ∈ wsL_law) (h5 : Cond.code y b mL ret ∈ wsL_law)
    (hy : y.cls = C ∧ y.cls ≠ "java/lang/invoke/MethodHandle" ∧ y.cls ≠ "java/lang/invoke/VarHandle" ∧ (parseMethodDescriptor y.desc).map (fun d => d.parameters.length) = some na) (hrc : rm.cells = 1) (hrs : rm.slots = 6) (hna : As.length = na) (q0 : Nat) (he : wc[q0]? = some (a0, .inr (ci, fs))) (hc : vwCl[ci]? = some (C, T, N)) (hR : rm.frames + 1 ≤ R.frames ∧ 8 + (mL + 11) + rm.locals ≤ R.locals) (hf : kc + 1 ≤ R.cells ∧ ks + 6 ≤ R.slots) (hst : (rest.map fun v => v.category).sum ≤ 8) (hd : decode cc pc = .ok (.invokevirtual index, 3)) {stk : List Value} (hstk : stk = As.reverse ++ .ref a0 :: rest) (isC : List Nat) (hisC : isC.map (fun i => ws[i]?) = wc.map some) (hnC : va_nd isC = true) (EM : g_Emb ws wc wc ws)
    (pre : List ExceptionTableEntry) (x : ExceptionTableEntry) (suf : List ExceptionTableEntry) (hsplit : c.exceptionTable.toList = pre ++ x :: suf) (hE0 : E0 ∈ g_xs) (hpass : ∀ z ∈ pre, z.catchType ≠ 0 ∧ ∃ nm ∈ g_xs, E0 ≠ nm ∧ Cond.classLink own z.catchType nm ∈ wsL_law) (hx : covers x pc = true) (h0 : x.catchType ≠ 0) (hlink : Cond.classLink own x.catchType E0 ∈ wsL_law)
    (kk : ∀ q9 : Nat, g_G p l e R s m args below meth c D A nL (kc + 1) (ks + 6) Q ws lv x.handlerPc [.ref q9]) : g_G p l e R s m args below meth c D A nL kc ks Q ws lv pc stk := by
  intro H locs ls hP hD hS hl
  have hPc := hP.map isC hisC
  have hDc : va_D (fun _ => True) wc := (hD.sub isC hnC hisC).weaken (fun _ _ _ _ => trivial)
  refine g_afterX (isC := isC) X (vx_runV (As := As) (rest := rest) ⟨X.1, X.2.1, X.2.2.1, X.2.2.2.1, X.2.2.2.2.1⟩ (hC H.size) (cwV na X.2.2.2.2.1 (g_goodV h1 h2 h3 h4 h5) rfl hrc hrs hy hR) ⟨g_blindX, va_recv X.2.2.2.2.2.1.1 hPc hc he, fun U hU hW => ⟨⟨rfl, by rw [hU], by rw [hU]; exact hPc, g_Kn.warm hW X.2.2.2.2.2.1, hDc⟩, by rw [hU]; exact g_Zk.go hW Y.2 hS Y.1⟩⟩ rfl hna hl.1 hstk (lv_room hst) hd hf) hP hD hS hl hisC (fun v w h => h.elim) (fun E w h => ?_)
  obtain ⟨rfl, rfl⟩ := h
  exact ⟨ws, EM, fun H1 locs1 ce q9 hP1 hD1 hS1 hce hcv hcl => vx_catch X.2.2.2.1 pre x suf hsplit (fun z hz => by
    obtain ⟨z0, nm, hnm, hne, hlk⟩ := hpass z hz
    exact Or.inr ⟨z0, nm, X.2.2.2.2.1 _ hlk, Y.1.1.2.2.2.2.2 _ hE0 _ hnm hne⟩) hx h0 (X.2.2.2.2.1 _ hlink) (va_Nw.use rfl (Y.1.1.2.2.2.2.1 _ hE0)) hce hcv hcl (kk q9 H1 locs1 ls hP1 hD1 hS1 hl)⟩
end GXW
theorem kH_L : plainName RL = true := by decide +kernel
