/-! the law's own rows -/
section GXL
variable {p : Program} {l : Launch} {e : Env} {R : Room} {s : State} {m : MethodId} {args : Array Value} {below : List Frame} {meth : Method} {c : Code} {D : va_G} {A : Nat → Prop} {nL kc ks : Nat} {cc : ByteArray} {own : String} {cI cJ cZ : ClassId} {Q : State → Prop} {ws ws' : va_W} {lv lv' : List (Nat × Value)} {pc : Nat} {st : List Value} {Φ : Option Value → va_W → Prop} {B0 : Nat}
theorem g_sld (X : g_Cx p s m args c D A nL cc own cI cJ cZ) {b L : Nat} {xs : Nat → Int32} (hX : va_X b L xs s s.heap) (hbl : b < s.heap.size) (hbA : ¬ A b) {i v : Int32} (k : Nat) (hi : i = nI k) (hk : k < L) (hL : L < 2 ^ 31) (hv : xs k = v) (hd : decode cc pc = .ok (.iaload, 1)) (kk : g_G p l e R s m args below meth c D A nL kc ks Q ws lv (pc + 1) (.int v :: st)) : g_G p l e R s m args below meth c D A nL kc ks Q ws lv pc (.int i :: .ref b :: st) := by
  have h := g_nI hi hk hL
  subst hv
  intro H locs ls hP hD hS hl
  refine va_sld X.1 X.2.1 hX hbl hbA hS h.1 hd ?_
  rw [h.2]
  exact kk H locs ls hP hD hS hl
theorem g_slen (X : g_Cx p s m args c D A nL cc own cI cJ cZ) {b L : Nat} {xs : Nat → Int32} (hX : va_X b L xs s s.heap) (hbl : b < s.heap.size) (hbA : ¬ A b) (hd : decode cc pc = .ok (.arraylength, 1)) (kk : g_G p l e R s m args below meth c D A nL kc ks Q ws lv (pc + 1) (.int (nI L) :: st)) : g_G p l e R s m args below meth c D A nL kc ks Q ws lv pc (.ref b :: st) := fun H locs ls hP hD hS hl => va_slen X.1 X.2.1 hX hbl hbA hS hd (kk H locs ls hP hD hS hl)
theorem g_goodSW {own : String} {i : Nat} {y : MethodName} {b : ByteArray} {n : Nat} {ret : Option FieldType} {hh : List (Nat × Nat × Nat × Nat)} (h1 : Cond.methodLink own i y ∈ wsL_law) (h2 : Cond.static y ∈ wsL_law) (h4 : Cond.initialized y.cls ∈ wsL_law) (h5 : Cond.codeWith y b n ret hh ∈ wsL_law) : GoodIn wsL_law (va_wsS own i y (g_wzW y b n ret hh)) :=
  goodIn_app (fun w hw => g_goodL w (by
    simp only [List.mem_cons, List.not_mem_nil, or_false] at hw
    rcases hw with rfl | rfl | rfl <;> assumption)) (fun w hw => (List.mem_cons.mp hw).elim (fun e => e ▸ g_goodL _ h5) (fun h => g_goodL w h))
theorem g_callSW (X : g_Cx p s m args c D A nL cc own cI cJ cZ) (Y : g_Xx B0 A s) {y : MethodName} {b : ByteArray} {mL index na : Nat} {ret : Option FieldType} {hh : List (Nat × Nat × Nat × Nat)} {rm : Room} {mc ms : Nat} {As rest : List Value} {wc : va_W} (hC : g_CtW l D cI cJ cZ B0 y b mL ret hh rm mc ms As wc Φ) (h1 : Cond.methodLink own index y ∈ wsL_law) (h2 : Cond.static y ∈ wsL_law) (h4 : Cond.initialized y.cls ∈ wsL_law) (h5 : Cond.codeWith y b mL ret hh ∈ wsL_law)
    (hy : y.cls ≠ "java/lang/invoke/MethodHandle" ∧ y.cls ≠ "java/lang/invoke/VarHandle" ∧ (parseMethodDescriptor y.desc).map (fun d => d.parameters.length) = some na) (hrc : rm.cells = mc) (hrs : rm.slots = ms) (hna : As.length = na) (hR : rm.frames + 1 ≤ R.frames ∧ 8 + (mL + 11) + rm.locals ≤ R.locals) (hf : kc + mc ≤ R.cells ∧ ks + ms ≤ R.slots) (hst : (rest.map fun v => v.category).sum ≤ 8) (hd : decode cc pc = .ok (.invokestatic index, 3)) {stk : List Value} (hstk : stk = As.reverse ++ rest) (isC : List Nat) (hisC : isC.map (fun i => ws[i]?) = wc.map some) (hnC : va_nd isC = true) (kk : ∀ (v : Option Value) (w : va_W), Φ v w → ∃ w2 : va_W, g_Emb ws wc w w2 ∧ g_G p l e R s m args below meth c D A nL (kc + mc) (ks + ms) Q w2 lv (pc + 3) (v.toList ++ rest)) : g_G p l e R s m args below meth c D A nL kc ks Q ws lv pc stk := by
  intro H locs ls hP hD hS hl
  have hPc := hP.map isC hisC
  have hDc : va_D (fun _ => True) wc := (hD.sub isC hnC hisC).weaken (fun _ _ _ _ => trivial)
  exact g_after X (vx_runSW (As := As) (rest := rest) ⟨X.1, X.2.1, X.2.2.1, X.2.2.2.1, X.2.2.2.2.1⟩ (hC H.size) (vx_cwSW na X.2.2.2.2.1 (g_goodSW h1 h2 h4 h5) rfl hrc hrs hy hR) ⟨g_blindX, fun U hU hW => ⟨⟨rfl, by rw [hU], by rw [hU]; exact hPc, g_Kn.warm hW X.2.2.2.2.2.1, hDc⟩, by rw [hU]; exact g_Zk.go hW Y.2 hS Y.1⟩⟩ rfl hna hl.1 hstk (lv_room hst) hd hf) hP hD hS hl isC hisC kk
end GXL
theorem bw_of {B0 : Nat} {ws : va_W} (l : List Nat) (hl : ws.map Prod.fst = l) (h : ∀ a ∈ l, B0 ≤ a) : g_Bw B0 ws := fun k q hk => h q.1 (by
  rw [← hl]
  exact List.mem_map.mpr ⟨q, List.mem_of_getElem? hk, rfl⟩)
theorem bw_X {B0 : Nat} {x : Nat → Nat} {u : Nat} {cI cJ cZ : ClassId} {C : Cf} {N : Nat → Nat} {S : St} {Qk U : Nat → Int64} {Z : St} (hx : ∀ i, i < 71 → B0 ≤ x i) (hu : B0 ≤ u) : g_Bw B0 (wX x (x 36) cI cJ cZ C N S Qk Z ++ [(u, .inl (cJ, 1, .inr (.inl U)))]) := by
  refine bw_of ((List.range 36).map x ++ [u]) rfl (fun a ha => ?_)
  rcases List.mem_append.mp ha with h | h
  · obtain ⟨i, hi, rfl⟩ := List.mem_map.mp h
    exact hx i (by have := List.mem_range.mp hi; omega)
  · rw [List.mem_singleton.mp h]
    exact hu
theorem bw_X2 {B0 : Nat} {x : Nat → Nat} {u : Nat} {cI cJ cZ : ClassId} {C jC : Cf} {N jN : Nat → Nat} {S jS : St} {Qk jQ U : Nat → Int64} {Z jZ : St} (hx : ∀ i, i < 71 → B0 ≤ x i) (hu : B0 ≤ u) : g_Bw B0 (wX2 x cI cJ cZ C N S Qk Z jC jN jS jQ jZ ++ [(u, .inl (cJ, 1, .inr (.inl U)))]) := by
  refine bw_of ((List.range 71).map x ++ [u]) rfl (fun a ha => ?_)
  rcases List.mem_append.mp ha with h | h
  · obtain ⟨i, hi, rfl⟩ := List.mem_map.mp h
    exact hx i (by have := List.mem_range.mp hi; omega)
  · rw [List.mem_singleton.mp h]
    exact hu
