/-! MY LAYER, ITS SECOND HALF: methods that may throw; worlds told anew by their rows' own range; locals told anew -/
abbrev xI : String := "java/lang/IndexOutOfBoundsException"
abbrev xA : String := "java/lang/IllegalArgumentException"
abbrev xS : String := "java/lang/IllegalStateException"
abbrev xUp : List String := ["java/lang/RuntimeException", "java/lang/Exception"]
def g_xs : List String := [xI, xA, xS]
def g_ds : List MethodName := [Bundle.initS "java/lang/RuntimeException", Bundle.initS "java/lang/Exception", Bundle.initS Bundle.tN]
/-- what the tables say of the throws -/
def g_Zv (U : State) : Prop := (∃ a, vk_R RX6 155 "there is no such number" a U) ∧ (∃ a, vk_R RX6 162 "an argument is out of its range" a U) ∧ (∃ a, vk_R RX6 167 "not in this state" a U) ∧ (∀ y ∈ g_ds, va_Nw (.declares y) U) ∧ (∀ x ∈ g_xs, va_Nw (.castable x x) U) ∧ (∀ x ∈ g_xs, ∀ z ∈ g_xs, x ≠ z → va_Nc x z U)
theorem g_Zv.warm {s U : State} (hW : s.WarmedH U.vm) (h : g_Zv s) : g_Zv U := by
  obtain ⟨⟨a1, h1⟩, ⟨a2, h2⟩, ⟨a3, h3⟩, h4, h5, h6⟩ := h
  exact ⟨⟨a1, h1.warm hW⟩, ⟨a2, h2.warm hW⟩, ⟨a3, h3.warm hW⟩, fun y hy => va_Nw.warmD hW (h4 y hy), fun x hx => va_Nw.warmC hW (h5 x hx), fun x hx z hz hne => va_Nc.moved hW.alike (h6 x hx z hz hne)⟩
theorem g_Zv.same {u U : State} (hv : u.vm = U.vm) (h : g_Zv u) : g_Zv U := by
  obtain ⟨⟨a1, h1⟩, ⟨a2, h2⟩, ⟨a3, h3⟩, h4, h5, h6⟩ := h
  exact ⟨⟨a1, h1.same hv.symm⟩, ⟨a2, h2.same hv.symm⟩, ⟨a3, h3.same hv.symm⟩, fun y hy => va_Nw.same rfl hv (h4 y hy), fun x hx => va_Nw.same rfl hv (h5 x hx), fun x hx z hz hne => va_Nc.moved (by rw [hv]; exact Vm.Alike.refl U.vm) (h6 x hx z hz hne)⟩
/-- .. and where the two statics of a throw lie: below B0 -/
def g_Zk (B0 : Nat) (U : State) (H : Heap) : Prop := g_Zv U ∧ vx_Zq Bundle.tN "UNASSIGNED_STACK" Bundle.steD (fun q => B0 ≤ q) U H ∧ vx_Zq Bundle.tN "SUPPRESSED_SENTINEL" Bundle.listD (fun q => B0 ≤ q) U H ∧ B0 ≤ H.size
theorem g_Zk.same {B0 : Nat} {u U : State} {H : Heap} (hv : u.vm = U.vm) (h : g_Zk B0 u H) : g_Zk B0 U H := ⟨h.1.same hv, h.2.1.moved (by rw [hv]; exact Vm.Alike.refl U.vm), h.2.2.1.moved (by rw [hv]; exact Vm.Alike.refl U.vm), h.2.2.2⟩
theorem g_Zk.go {B0 : Nat} {s U : State} {A : Nat → Prop} {H : Heap} {locs : List Loc} (hW : s.WarmedH U.vm) (hAB : ∀ q, A q → B0 ≤ q) (hS : va_S A s.heap H locs) (h : g_Zk B0 s s.heap) : g_Zk B0 U H := by
  have hk : ∀ a : Nat, a < s.heap.size → ¬ B0 ≤ a → H[a]? = s.heap[a]? := fun a h1 h2 => hS.2.1 a h1 (fun z => h2 (hAB a z))
  exact ⟨h.1.warm hW, (h.2.1.kept hk).moved hW.alike, (h.2.2.1.kept hk).moved hW.alike, Nat.le_trans h.2.2.2 hS.1⟩
def g_PreX (D : va_G) (cI cJ cZ : ClassId) (B0 : Nat) (as : List Value) (ws : va_W) (sz : Nat) : Array Value → State → Prop := fun a U => g_Pre D cI cJ cZ as ws sz a U ∧ g_Zk B0 U U.heap
def g_PostX (D : va_G) (A : Nat → Prop) (Ψ : String → va_W → Prop) : String → State → State → Prop := fun E st t => (∃ w, Ψ E w ∧ va_P D vwCl w t.heap ∧ va_D A w) ∧ va_F A st t
/-- the contract of a method that may throw: Φ where it returns, Ψ where it throws -/
def g_CtX (l : Launch) (D : va_G) (cI cJ cZ : ClassId) (B0 : Nat) (y : MethodName) (b : ByteArray) (mL : Nat) (ret : Option FieldType) (rm : Room) (mc ms : Nat) (as : List Value) (ws : va_W) (Φ : Option Value → va_W → Prop) (Ψ : String → va_W → Prop) : Prop :=
  ∀ sz : Nat, vx_Met l y (g_wz y b mL ret) rm (g_PreX D cI cJ cZ B0 as ws sz) (g_Post D (va_A ws sz) Φ) (g_PostX D (va_A ws sz) Ψ) mc ms (va_A ws sz)
theorem g_blindX {D : va_G} {cI cJ cZ : ClassId} {B0 : Nat} {as : List Value} {ws : va_W} {sz : Nat} : FrameBlind (g_PreX D cI cJ cZ B0 as ws sz) := fun a U g mk q => ⟨g_blind a U g mk q.1, g_Zk.same (u := U) (U := U.calling g mk a) rfl q.2⟩
def g_Xx (B0 : Nat) (A : Nat → Prop) (s : State) : Prop := g_Zk B0 s s.heap ∧ ∀ q, A q → B0 ≤ q
def g_Bw (B0 : Nat) (ws : va_W) : Prop := ∀ (k : Nat) (q : Nat × va_E), ws[k]? = some q → B0 ≤ q.1
theorem g_bodyX {l : Launch} {D : va_G} {cI cJ cZ : ClassId} {B0 : Nat} {y : MethodName} {b : ByteArray} {mL : Nat} {ret : Option FieldType} {rm : Room} {mc ms : Nat} {as : List Value} {ws : va_W} {Φ : Option Value → va_W → Prop} {Ψ : String → va_W → Prop} (own : String) (lv : List (Nat × Value)) (hy : plainName y.cls = true) (ho : y.cls = own) (hen : (lg_sl as).length ≤ mL) (hlv : lv_args 0 as = lv) (hB : g_Bw B0 ws)
    (body : ∀ (p : Program) (e : Env) (s : State) (m : MethodId) (args : Array Value) (below : List Frame) (meth : Method) (c : Code) (A : Nat → Prop), g_Cx p s m args c D A mL b own cI cJ cZ → g_Xx B0 A s → (∀ x ∈ c.exceptionTable.toList, False) → meth.sig.returnType = ret → meth.locks = false → meth.name = y.name → ∀ Q : State → Prop, vx_MQ below (g_Post D A Φ) (g_PostX D A Ψ) args s mc ms A = Q → g_G p l e rm s m args below meth c D A mL 0 0 Q ws lv 0 []) : g_CtX l D cI cJ cZ B0 y b mL ret rm mc ms as ws Φ Ψ := by
  intro sz
  refine vx_ofW (cc := b) (maxL := mL) (ret := ret) hy rfl ?_
  intro p e s m args below meth c s₁ B hml hT hv
  obtain ⟨⟨rfl, hsz, hP, hK, hD0⟩, hZ⟩ := hv
  have hts := atoms_spec (ws := g_wz y b mL ret) B.pre
  subst hsz
  have hown : s.vm.findClass own = some m.cls := by rw [← ho]; exact findClass_of_methodNamed B.named
  have hD := hD0.self (sz := s.heap.size)
  rw [lg_entry_eq]
  subst hlv
  refine body p e s m _ below meth c (va_A ws s.heap.size) ⟨B.exec, B.bytes, hml, hown, fun w h => hts w (List.mem_cons_of_mem _ h), hK, fun q h => Or.inr h⟩ ⟨hZ, fun q hq => ?_⟩ hT B.returns B.notSynchronized (name_of_methodNamed B.named B.method).1 _ rfl s.heap [] _ hP hD va_S.rf (lv_entry as hen)
  rcases hq with ⟨k, e, h⟩ | h
  · exact hB k _ h
  · exact Nat.le_trans hZ.2.2.2 h
section GX
variable {p : Program} {l : Launch} {e : Env} {R : Room} {s : State} {m : MethodId} {args : Array Value} {below : List Frame} {meth : Method} {c : Code} {D : va_G} {A : Nat → Prop} {nL kc ks : Nat} {cc : ByteArray} {own : String} {cI cJ cZ : ClassId} {Q : State → Prop} {ws ws' : va_W} {lv lv' : List (Nat × Value)} {pc : Nat} {st : List Value} {Φ : Option Value → va_W → Prop} {Ψ : String → va_W → Prop} {B0 : Nat}
theorem g_lvq {lv' : List (Nat × Value)} (h : lv = lv') (kk : g_G p l e R s m args below meth c D A nL kc ks Q ws lv' pc st) : g_G p l e R s m args below meth c D A nL kc ks Q ws lv pc st := h ▸ kk
/-- the same cells, where rows differ only beyond their ends -/
def g_se (q q' : Nat × va_E) : Prop := q.1 = q'.1 ∧ (q.2 = q'.2 ∨ ∃ (c : ClassId) (a a' : vp_A), q.2 = .inl (c, a) ∧ q'.2 = .inl (c, a') ∧ vp_cell c a = vp_cell c a')
def g_sim : va_W → va_W → Prop
  | [], [] => True
  | q :: ws, q' :: ws' => g_se q q' ∧ g_sim ws ws'
  | _, _ => False
theorem g_sim.rfl' : ∀ ws : va_W, g_sim ws ws
  | [] => trivial
  | _ :: ws => ⟨⟨rfl, Or.inl rfl⟩, g_sim.rfl' ws⟩
theorem g_sim.app : ∀ {a a' b b' : va_W}, g_sim a a' → g_sim b b' → g_sim (a ++ b) (a' ++ b')
  | [], [], _, _, _, h => h
  | _ :: _, _ :: _, _, _, h1, h => ⟨h1.1, g_sim.app h1.2 h⟩
  | [], _ :: _, _, _, h1, _ => h1.elim
  | _ :: _, [], _, _, h1, _ => h1.elim
theorem g_sim.symm : ∀ {a b : va_W}, g_sim a b → g_sim b a
  | [], [], _ => trivial
  | _ :: _, _ :: _, h => ⟨⟨h.1.1.symm, h.1.2.elim (fun z => Or.inl z.symm) (fun ⟨c, x, y, h1, h2, h3⟩ => Or.inr ⟨c, y, x, h2, h1, h3.symm⟩)⟩, g_sim.symm h.2⟩
  | [], _ :: _, h => h.elim
  | _ :: _, [], h => h.elim
theorem g_sim.get : ∀ {a b : va_W}, g_sim a b → ∀ (k : Nat) (q' : Nat × va_E), b[k]? = some q' → ∃ q, a[k]? = some q ∧ g_se q q'
  | [], [], _, k, q', h => by simp at h
  | q :: _, _ :: _, hs, 0, q', h => ⟨q, rfl, by
      have : _ = q' := Option.some.inj h
      rw [← this]
      exact hs.1⟩
  | _ :: _, _ :: _, hs, k + 1, q', h => g_sim.get hs.2 k q' h
  | [], _ :: _, hs, _, _, _ => hs.elim
  | _ :: _, [], hs, _, _, _ => hs.elim
theorem g_sim.P {D : va_G} {H : Heap} {a b : va_W} (h : g_sim a b) (hP : va_P D vwCl a H) : va_P D vwCl b H := by
  intro k q' hk
  obtain ⟨q, hq, h1, h2⟩ := h.get k q' hk
  have h3 := hP k q hq
  unfold va_at at h3 ⊢
  rcases h2 with h2 | ⟨c, x, y, e1, e2, e3⟩
  · rw [h1, h2] at h3
    exact h3
  · rw [e1] at h3
    rw [e2]
    dsimp only at h3 ⊢
    rw [← e3, ← h1]
    exact h3
theorem g_sim.Da {A : Nat → Prop} {a b : va_W} (h : g_sim a b) (hD : va_D A a) : va_D A b := by
  refine ⟨fun i j x y hi hj e => ?_, fun k q hk => ?_⟩
  · obtain ⟨x', hx, ex, -⟩ := h.get i x hi
    obtain ⟨y', hy, ey, -⟩ := h.get j y hj
    exact hD.1 i j x' y' hx hy (by rw [ex, ey]; exact e)
  · obtain ⟨x', hx, ex, -⟩ := h.get k q hk
    rw [← ex]
    exact hD.2 k x' hx
theorem g_cg {ws' : va_W} (h : g_sim ws ws') (kk : g_G p l e R s m args below meth c D A nL kc ks Q ws' lv pc st) : g_G p l e R s m args below meth c D A nL kc ks Q ws lv pc st := fun H locs ls hP hD hS hl => kk H locs ls (g_sim.P h hP) (g_sim.Da h hD) hS hl
theorem g_seI (a : Nat) (cI : ClassId) (n : Nat) {f g : Nat → Int32} (h : ∀ j, j < n → f j = g j) : g_se (a, .inl (cI, n, .inl f)) (a, .inl (cI, n, .inl g)) := ⟨rfl, Or.inr ⟨cI, _, _, rfl, rfl, by
  show arrV cI n (fun j => Value.int (f j)) = arrV cI n (fun j => Value.int (g j))
  unfold arrV
  congr 1
  apply Array.ext_getElem?
  intro j
  by_cases hj : j < n
  · simp [hj, h j hj]
  · simp [hj]⟩⟩
theorem g_seJ (a : Nat) (cJ : ClassId) (n : Nat) {f g : Nat → Int64} (h : ∀ j, j < n → f j = g j) : g_se (a, .inl (cJ, n, .inr (.inl f))) (a, .inl (cJ, n, .inr (.inl g))) := ⟨rfl, Or.inr ⟨cJ, _, _, rfl, rfl, by
  show arrV cJ n (fun j => Value.long (f j)) = arrV cJ n (fun j => Value.long (g j))
  unfold arrV
  congr 1
  apply Array.ext_getElem?
  intro j
  by_cases hj : j < n
  · simp [hj, h j hj]
  · simp [hj]⟩⟩
/-- a body's own end, where it may throw too -/
theorem g_xret (hQ : vx_MQ below (g_Post D A Φ) (g_PostX D A Ψ) args s kc ks A = Q) (kk : g_G p l e R s m args below meth c D A nL kc ks (MQ below (g_Post D A Φ) args s kc ks A) ws lv pc st) : g_G p l e R s m args below meth c D A nL kc ks Q ws lv pc st := by
  subst hQ
  exact fun H locs ls hP hD hS hl => vx_ret (kk H locs ls hP hD hS hl)
/-- throw new E("text") -/
theorem g_throwS (X : g_Cx p s m args c D A nL cc own cI cJ cZ) (Y : g_Xx B0 A s) (hT : ∀ x ∈ c.exceptionTable.toList, False) (hl0 : l.stackTraces = false) (hlk : meth.locks = false) {mc ms : Nat} (hQ : vx_MQ below (g_Post D A Φ) (g_PostX D A Ψ) args s mc ms A = Q) {cls text : String} {ik is ic sa : Nat} (hcls : Bundle.fit cls = true) (hk : Cond.classLink own ik cls ∈ wsL_law) (hini : Cond.initialized cls ∈ wsL_law) (hstr : vk_R own is text sa s) (hat : ∀ w ∈ vx_atS own ic cls xUp, w.before args s = true) (hgood : ∀ w ∈ Cond.classLink own ik cls :: Cond.initialized cls :: vx_atS own ic cls xUp, vx_ot w = true)
    (d0 : decode cc pc = .ok (.new ik, 3)) (d3 : decode cc (pc + 3) = .ok (.dup, 1)) (d4 : decode cc (pc + 4) = .ok (.ldc is, 2)) (d6 : decode cc (pc + 6) = .ok (.invokespecial ic, 3)) (d9 : decode cc (pc + 9) = .ok (.athrow, 1))
    (hRf : 5 < R.frames) (hRl : (st.map fun v => v.category).sum + 82 ≤ R.locals) (hRc : kc + 1 ≤ R.cells) (hRs : ks + 6 ≤ R.slots) (hc : kc + 1 ≤ mc) (hs : ks + 6 ≤ ms) (hΨ : Ψ cls ws) : g_G p l e R s m args below meth c D A nL kc ks Q ws lv pc st := by
  subst hQ
  intro H locs ls hP hD hS hl
  refine vx_throwS X.1 X.2.1 hl0 X.2.2.2.1 hcls (by decide +kernel) (X.2.2.2.2.1 _ hk) (X.2.2.2.2.1 _ hini) hstr hat hgood (Y.1.2.1.narrow Y.2) (Y.1.2.2.1.narrow Y.2) hS (hl.1.trans X.2.2.1.symm) d0 d3 d4 d6 d9 (fun x hx => (hT x hx).elim) hRf hRl hRc hRs hlk ?_ hS.2.2 hc hs
  intro t hal hsz hkeep
  exact ⟨⟨ws, hΨ, hP.kept (fun k q hq => hkeep _ (hP k q hq).lt), hD⟩, Nat.le_trans hS.1 hsz, fun q h1 h2 => (hkeep q (Nat.lt_of_lt_of_le h1 hS.1)).trans (hS.2.1 q h1 h2)⟩
/-- behind a call that may throw: both ways -/
theorem g_afterX {H : Heap} {locs : List Loc} {ls : Array Slot} {mc ms : Nat} {wc : va_W} {rest st0 : List Value} {a : Array Value} (X : g_Cx p s m args c D A nL cc own cI cJ cZ) (hr : vx_Run p l e R s m args below meth c H locs kc ks mc ms (F0 m pc ls st0) rest (g_Post D (va_A wc H.size) Φ a) (g_PostX D (va_A wc H.size) Ψ) (va_A wc H.size)) (hP : va_P D vwCl ws H) (hD : va_D A ws) (hS : va_S A s.heap H locs) (hl : lv_has ls nL lv) (isC : List Nat) (hisC : isC.map (fun i => ws[i]?) = wc.map some)
    (kk : ∀ (v : Option Value) (w : va_W), Φ v w → ∃ w2 : va_W, g_Emb ws wc w w2 ∧ g_G p l e R s m args below meth c D A nL (kc + mc) (ks + ms) Q w2 lv (pc + 3) (v.toList ++ rest))
    (kx : ∀ (E : String) (w : va_W), Ψ E w → ∃ w2 : va_W, g_Emb ws wc w w2 ∧ ∀ (H1 : Heap) (locs1 : List Loc) (ce : Cell) (q9 : Addr), va_P D vwCl w2 H1 → va_D A w2 → va_S A s.heap H1 locs1 → H1[q9]? = some ce → ce.vm = .none → s.vm.findClass E = some ce.cls → vx_W p l e R s m args below meth c H1 locs1 (kc + mc) (ks + ms) Q (F0 m pc ls rest) q9) : W p l e R s m args below meth c H locs kc ks Q (F0 m pc ls st0) := by
  intro T hT Y
  have hF := va_free hD hS X.2.2.2.2.2.2 isC hisC
  rcases hr T hT Y with ⟨v, st₀, t, T', L, h0, X', hL, e1, e2, ⟨⟨v', w, hv, hp, hPw, hDw⟩, hz, hk⟩, stp⟩ | ⟨q, st₀, t, T', L, E, ce, h0, X', hL, e1, e2, ⟨⟨w, hp, hPw, hDw⟩, hz, hk⟩, hce, hcv, hcl, stp⟩
  · cases hv
    rw [h0] at hz hk
    obtain ⟨w2, ⟨jC, jR, j2, wr, q1, q2, q3, q4, q5, q6, q7⟩, k2⟩ := kk v w hp
    obtain ⟨hPj, hDj⟩ := va_join (wr := wr) (w1 := w) (H1 := T'.heap) hP hD jC jR q1 q3 q4 q5 (fun q h1 h2 => by rw [e1]; exact hk q h1 h2) hF (by rw [e1]; exact hPw) hDw
    obtain ⟨t2, a1, b1⟩ := k2 T'.heap (locs ++ L) ls (hPj.map j2 q6) (hDj.sub j2 q7 q6)
      ⟨Nat.le_trans hS.1 (by rw [e1]; exact hz), fun q h1 h2 => by rw [e1, hk q (Nat.lt_of_lt_of_le h1 hS.1) (fun z => h2 (hF q z))]; exact hS.2.1 q h1 h2, fun q hq => by
        rcases List.mem_append.mp hq with h | h
        · exact hS.2.2 q h
        · exact hF _ (hL q h)⟩ hl T' rfl X'
    exact ⟨t2, stp t2 a1, b1⟩
  · rw [h0] at hz hk
    obtain ⟨w2, ⟨jC, jR, j2, wr, q1, q2, q3, q4, q5, q6, q7⟩, k2⟩ := kx E w hp
    obtain ⟨hPj, hDj⟩ := va_join (wr := wr) (w1 := w) (H1 := T'.heap) hP hD jC jR q1 q3 q4 q5 (fun q h1 h2 => by rw [e1]; exact hk q h1 h2) hF (by rw [e1]; exact hPw) hDw
    obtain ⟨t2, a1, b1⟩ := k2 T'.heap (locs ++ L) ce q (hPj.map j2 q6) (hDj.sub j2 q7 q6)
      ⟨Nat.le_trans hS.1 (by rw [e1]; exact hz), fun q h1 h2 => by rw [e1, hk q (Nat.lt_of_lt_of_le h1 hS.1) (fun z => h2 (hF q z))]; exact hS.2.1 q h1 h2, fun q hq => by
        rcases List.mem_append.mp hq with h | h
        · exact hS.2.2 q h
        · exact hF _ (hL q h)⟩ (by rw [e1]; exact hce) hcv hcl T' rfl X'
    exact ⟨t2, stp.trans a1, b1⟩
/-- what is thrown by a callee goes on to the caller -/
theorem g_out {H1 : Heap} {locs1 : List Loc} {ls : Array Slot} {ce : Cell} {q9 : Addr} {rest : List Value} {E : String} {mc ms : Nat} (hT : ∀ x ∈ c.exceptionTable.toList, False) (hlk : meth.locks = false) (hP : va_P D vwCl ws H1) (hD : va_D A ws) (hS : va_S A s.heap H1 locs1) (hce : H1[q9]? = some ce) (hcv : ce.vm = .none) (hcl : s.vm.findClass E = some ce.cls) (hc : kc ≤ mc) (hs : ks ≤ ms) (hΨ : Ψ E ws) :
    vx_W p l e R s m args below meth c H1 locs1 kc ks (vx_MQ below (g_Post D A Φ) (g_PostX D A Ψ) args s mc ms A) (F0 m pc ls rest) q9 :=
  vx_out (fun x hx => (hT x hx).elim) hlk hce hcv hcl (fun t ht hal => ⟨⟨ws, hΨ, by rw [ht]; exact hP, hD⟩, hS.F ht⟩) hS.2.2 hc hs
end GX
