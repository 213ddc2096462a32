/-! the script: a static method that reads it -/
section GXS
variable {p : Program} {l : Launch} {e : Env} {R : Room} {s : State} {m : MethodId} {args : Array Value} {below : List Frame} {meth : Method} {c : Code} {D : va_G} {A : Nat → Prop} {nL kc ks : Nat} {cc : ByteArray} {own : String} {cI cJ cZ : ClassId} {Q : State → Prop} {ws ws' : va_W} {lv lv' : List (Nat × Value)} {pc : Nat} {st : List Value} {Φ : Option Value → va_W → Prop}
theorem g_sld (X : g_Cx p s m args c D A nL cc own cI cJ cZ) {b L : Nat} {xs : Nat → Int32} (hX : va_X b L xs s s.heap) (hbl : b < s.heap.size) (hbA : ¬ A b) {i v : Int32} (k : Nat) (hi : i = nI k) (hk : k < L) (hL : L < 2 ^ 31) (hv : xs k = v) (hd : decode cc pc = .ok (.iaload, 1)) (kk : g_G p l e R s m args below meth c D A nL kc ks Q ws lv (pc + 1) (.int v :: st)) : g_G p l e R s m args below meth c D A nL kc ks Q ws lv pc (.int i :: .ref b :: st) := by
  have h := g_nI hi hk hL
  subst hv
  intro H locs ls hP hD hS hl
  refine va_sld X.1 X.2.1 hX hbl hbA hS h.1 hd ?_
  rw [h.2]
  exact kk H locs ls hP hD hS hl
theorem g_slen (X : g_Cx p s m args c D A nL cc own cI cJ cZ) {b L : Nat} {xs : Nat → Int32} (hX : va_X b L xs s s.heap) (hbl : b < s.heap.size) (hbA : ¬ A b) (hd : decode cc pc = .ok (.arraylength, 1)) (kk : g_G p l e R s m args below meth c D A nL kc ks Q ws lv (pc + 1) (.int (nI L) :: st)) : g_G p l e R s m args below meth c D A nL kc ks Q ws lv pc (.ref b :: st) := fun H locs ls hP hD hS hl => va_slen X.1 X.2.1 hX hbl hbA hS hd (kk H locs ls hP hD hS hl)
def g_PreS (D : va_G) (cI cJ cZ : ClassId) (b L : Nat) (xs : Nat → Int32) (as : List Value) (sz : Nat) : Array Value → State → Prop := fun a U => g_Pre D cI cJ cZ as [] sz a U ∧ va_X b L xs U U.heap ∧ b < sz
def g_CtS (l : Launch) (D : va_G) (cI cJ cZ : ClassId) (b L : Nat) (xs : Nat → Int32) (y : MethodName) (bb : ByteArray) (mL : Nat) (ret : Option FieldType) (rm : Room) (as : List Value) (Φ : Option Value → va_W → Prop) : Prop :=
  ∀ sz : Nat, Met l y (g_wz y bb mL ret) rm (g_PreS D cI cJ cZ b L xs as sz) (g_Post D (va_A [] sz) Φ) 0 0 (va_A [] sz)
theorem g_blindS {b L : Nat} {xs : Nat → Int32} {as : List Value} {sz : Nat} : FrameBlind (g_PreS D cI cJ cZ b L xs as sz) := fun a U g mk q => ⟨g_blind a U g mk q.1, va_X.moved (Vm.Alike.refl U.vm) q.2.1, q.2.2⟩
theorem g_bodyS {b L : Nat} {xs : Nat → Int32} {y : MethodName} {bb : ByteArray} {mL : Nat} {ret : Option FieldType} {rm : Room} {as : List Value} (own : String) (lv : List (Nat × Value)) (hy : plainName y.cls = true) (ho : y.cls = own) (hen : (lg_sl as).length ≤ mL) (hlv : lv_args 0 as = lv)
    (body : ∀ (p : Program) (e : Env) (s : State) (m : MethodId) (args : Array Value) (below : List Frame) (meth : Method) (c : Code) (A : Nat → Prop), g_Cx p s m args c D A mL bb own cI cJ cZ → va_X b L xs s s.heap → b < s.heap.size → ¬ A b → meth.sig.returnType = ret → meth.locks = false → meth.name = y.name → ∀ Q : State → Prop, MQ below (g_Post D A Φ) args s 0 0 A = Q → g_G p l e rm s m args below meth c D A mL 0 0 Q [] lv 0 []) : g_CtS l D cI cJ cZ b L xs y bb mL ret rm as Φ := by
  intro sz
  refine Met.ofW (cc := bb) (maxL := mL) (ret := ret) hy rfl ?_
  intro p e s m args below meth c s₁ B hml hv
  obtain ⟨⟨rfl, hsz, hP, hK, hD0⟩, hX, hb⟩ := hv
  have hts := atoms_spec (ws := g_wz y bb mL ret) B.pre
  subst hsz
  have hown : s.vm.findClass own = some m.cls := by rw [← ho]; exact findClass_of_methodNamed B.named
  have hD := hD0.self (sz := s.heap.size)
  rw [lg_entry_eq]
  subst hlv
  refine body p e s m _ below meth c (va_A [] s.heap.size) ⟨B.exec, B.bytes, hml, hown, fun w h => hts w (List.mem_cons_of_mem _ h), hK, fun q h => Or.inr h⟩ hX hb (fun z => ?_) B.returns B.notSynchronized (name_of_methodNamed B.named B.method).1 _ rfl s.heap [] _ hP hD va_S.rf (lv_entry as hen)
  rcases z with ⟨k, e, h⟩ | h
  · simp at h
  · exact absurd hb (Nat.not_lt.mpr h)
theorem g_callSS (X : g_Cx p s m args c D A nL cc own cI cJ cZ) {b L : Nat} {xs : Nat → Int32} (hX : va_X b L xs s s.heap) (hbl : b < s.heap.size) (hbA : ¬ A b) {y : MethodName} {bb : ByteArray} {mL index na : Nat} {ret : Option FieldType} {rm : Room} {As rest : List Value} (hC : g_CtS l D cI cJ cZ b L xs y bb mL ret rm As Φ) (h1 : Cond.methodLink own index y ∈ wsL_law) (h2 : Cond.static y ∈ wsL_law) (h4 : Cond.initialized own ∈ wsL_law) (h5 : Cond.code y bb mL ret ∈ wsL_law)
    (hy : y.cls = own ∧ y.cls ≠ "java/lang/invoke/MethodHandle" ∧ y.cls ≠ "java/lang/invoke/VarHandle" ∧ (parseMethodDescriptor y.desc).map (fun d => d.parameters.length) = some na) (hrc : rm.cells = 0) (hrs : rm.slots = 0) (hna : As.length = na) (hR : rm.frames + 1 ≤ R.frames ∧ 8 + (mL + 11) + rm.locals ≤ R.locals) (hf : kc + 0 ≤ R.cells ∧ ks + 0 ≤ R.slots) (hst : (rest.map fun v => v.category).sum ≤ 8) (hd : decode cc pc = .ok (.invokestatic index, 3)) {stk : List Value} (hstk : stk = As.reverse ++ rest) (kk : ∀ (v : Option Value) (w : va_W), Φ v w → ∃ w2 : va_W, g_Emb ws [] w w2 ∧ g_G p l e R s m args below meth c D A nL (kc + 0) (ks + 0) Q w2 lv (pc + 3) (v.toList ++ rest)) : g_G p l e R s m args below meth c D A nL kc ks Q ws lv pc stk := by
  intro H locs ls hP hD hS hl
  have hPc : va_P D vwCl [] H := hP.map [] rfl
  have hDc : va_D (fun _ => True) ([] : va_W) := (hD.sub [] rfl rfl).weaken (fun _ _ _ _ => trivial)
  refine g_after X (va_runS (As := As) (rest := rest) ⟨X.1, X.2.1, X.2.2.1, X.2.2.2.1, X.2.2.2.2.1⟩ (hC H.size) (cwS na X.2.2.2.2.1 (g_goodS h1 h2 h4 h5) rfl hrc hrs hy hR) ⟨g_blindS, fun U hU hW => ⟨⟨rfl, by rw [hU], by rw [hU]; exact hPc, g_Kn.warm hW X.2.2.2.2.2.1, hDc⟩, by rw [hU]; exact va_X.moved hW.alike (hX.kept (hS.2.1 b hbl hbA)), Nat.lt_of_lt_of_le hbl hS.1⟩⟩ rfl hna hl.1 hstk (lv_room hst) hd hf) hP hD hS hl [] rfl kk
end GXS
def clI (xs : Nat → Int32) (L k : Nat) : Int32 := if L ≤ k then nI (51361 * (k + 157) + 1781087) else xs k
theorem and23 (v : Int32) : ∃ k, k < 8388608 ∧ v &&& nI 8388607 = nI k := by
  refine ⟨(v &&& nI 8388607).toBitVec.toNat, ?_, ?_⟩
  · have e : (v &&& nI 8388607).toBitVec = v.toBitVec &&& (8388607#32) := by
      rw [Int32.toBitVec_and]
      rfl
    rw [e, BitVec.toNat_and]
    have : v.toBitVec.toNat &&& (8388607#32).toNat ≤ (8388607#32).toNat := Nat.and_le_right
    have h2 : (8388607#32).toNat = 8388607 := rfl
    omega
  · apply Int32.toBitVec_inj.mp
    apply BitVec.eq_of_toNat_eq
    show _ = (Int32.ofNat (v &&& nI 8388607).toBitVec.toNat).toBitVec.toNat
    rw [show (Int32.ofNat (v &&& nI 8388607).toBitVec.toNat).toBitVec = BitVec.ofNat 32 (v &&& nI 8388607).toBitVec.toNat from rfl, BitVec.toNat_ofNat, Nat.mod_eq_of_lt (v &&& nI 8388607).toBitVec.isLt]
