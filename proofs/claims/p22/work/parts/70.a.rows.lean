/-! rows that the law alone needs -/
section GXP
variable {p : Program} {l : Launch} {e : Env} {R : Room} {s : State} {m : MethodId} {args : Array Value} {below : List Frame} {meth : Method} {c : Code} {D : va_G} {A : Nat → Prop} {nL kc ks : Nat} {cc : ByteArray} {own : String} {cI cJ cZ : ClassId} {Q : State → Prop} {ws ws' : va_W} {lv lv' : List (Nat × Value)} {pc : Nat} {st : List Value} {Φ : Option Value → va_W → Prop}
theorem g_land (X : g_Cx p s m args c D A nL cc own cI cJ cZ) {x v : Int64} {y : Int64} (hd : decode cc pc = .ok (.land, 1)) (hv : x &&& y = v) (kk : g_G p l e R s m args below meth c D A nL kc ks Q ws lv (pc + 1) (.long v :: st)) : g_G p l e R s m args below meth c D A nL kc ks Q ws lv pc (.long y :: .long x :: st) := by
  subst hv
  exact fun H locs ls hP hD hS hl => lv_land X.1 X.2.1 hd (kk H locs ls hP hD hS hl)
theorem g_lor (X : g_Cx p s m args c D A nL cc own cI cJ cZ) {x v : Int64} {y : Int64} (hd : decode cc pc = .ok (.lor, 1)) (hv : x ||| y = v) (kk : g_G p l e R s m args below meth c D A nL kc ks Q ws lv (pc + 1) (.long v :: st)) : g_G p l e R s m args below meth c D A nL kc ks Q ws lv pc (.long y :: .long x :: st) := by
  subst hv
  exact fun H locs ls hP hD hS hl => lv_lor X.1 X.2.1 hd (kk H locs ls hP hD hS hl)
theorem g_andi (X : g_Cx p s m args c D A nL cc own cI cJ cZ) {x v : Int32} {y : Int32} (hd : decode cc pc = .ok (.iand, 1)) (hv : x &&& y = v) (kk : g_G p l e R s m args below meth c D A nL kc ks Q ws lv (pc + 1) (.int v :: st)) : g_G p l e R s m args below meth c D A nL kc ks Q ws lv pc (.int y :: .int x :: st) := by
  subst hv
  exact fun H locs ls hP hD hS hl => lv_iand X.1 X.2.1 hd (kk H locs ls hP hD hS hl)
theorem g_ishr (X : g_Cx p s m args c D A nL cc own cI cJ cZ) {x v : Int32} {y : Int32} (hd : decode cc pc = .ok (.ishr, 1)) (hv : x >>> (y &&& 31) = v) (kk : g_G p l e R s m args below meth c D A nL kc ks Q ws lv (pc + 1) (.int v :: st)) : g_G p l e R s m args below meth c D A nL kc ks Q ws lv pc (.int y :: .int x :: st) := by
  subst hv
  exact fun H locs ls hP hD hS hl => lv_ishr X.1 X.2.1 hd (kk H locs ls hP hD hS hl)
theorem g_lshl (X : g_Cx p s m args c D A nL cc own cI cJ cZ) {x v : Int64} {y : Int32} (hd : decode cc pc = .ok (.lshl, 1)) (hv : x <<< (y.toInt64 &&& 63) = v) (kk : g_G p l e R s m args below meth c D A nL kc ks Q ws lv (pc + 1) (.long v :: st)) : g_G p l e R s m args below meth c D A nL kc ks Q ws lv pc (.int y :: .long x :: st) := fun H locs ls hP hD hS hl => lv_lshl X.1 X.2.1 hd hv (kk H locs ls hP hD hS hl)
theorem g_lshr (X : g_Cx p s m args c D A nL cc own cI cJ cZ) {x v : Int64} {y : Int32} (hd : decode cc pc = .ok (.lshr, 1)) (hv : x >>> (y.toInt64 &&& 63) = v) (kk : g_G p l e R s m args below meth c D A nL kc ks Q ws lv (pc + 1) (.long v :: st)) : g_G p l e R s m args below meth c D A nL kc ks Q ws lv pc (.int y :: .long x :: st) := fun H locs ls hP hD hS hl => lv_lshr X.1 X.2.1 hd hv (kk H locs ls hP hD hS hl)
theorem g_lneg (X : g_Cx p s m args c D A nL cc own cI cJ cZ) {x v : Int64} (hd : decode cc pc = .ok (.lneg, 1)) (hv : -x = v) (kk : g_G p l e R s m args below meth c D A nL kc ks Q ws lv (pc + 1) (.long v :: st)) : g_G p l e R s m args below meth c D A nL kc ks Q ws lv pc (.long x :: st) := by
  subst hv
  exact fun H locs ls hP hD hS hl => lv_lneg X.1 X.2.1 hd (kk H locs ls hP hD hS hl)
theorem g_ineg (X : g_Cx p s m args c D A nL cc own cI cJ cZ) {x v : Int32} (hd : decode cc pc = .ok (.ineg, 1)) (hv : -x = v) (kk : g_G p l e R s m args below meth c D A nL kc ks Q ws lv (pc + 1) (.int v :: st)) : g_G p l e R s m args below meth c D A nL kc ks Q ws lv pc (.int x :: st) := by
  subst hv
  exact fun H locs ls hP hD hS hl => lv_ineg X.1 X.2.1 hd (kk H locs ls hP hD hS hl)
theorem g_sub (is : List Nat) (h : is.map (fun i => ws[i]?) = ws'.map some) (hn : va_nd is = true) (kk : g_G p l e R s m args below meth c D A nL kc ks Q ws' lv pc (st)) : g_G p l e R s m args below meth c D A nL kc ks Q ws lv pc (st) := fun H locs ls hP hD hS hl => kk H locs ls (hP.map is h) (hD.sub is hn h) hS hl
theorem g_lrem (X : g_Cx p s m args c D A nL cc own cI cJ cZ) {x y v : Int64} (hd : decode cc pc = .ok (.lrem, 1)) (hne : ¬ y = 0) (hv : x - x / y * y = v) (kk : g_G p l e R s m args below meth c D A nL kc ks Q ws lv (pc + 1) (.long v :: st)) : g_G p l e R s m args below meth c D A nL kc ks Q ws lv pc (.long y :: .long x :: st) := by
  subst hv
  exact fun H locs ls hP hD hS hl => lv_lrem X.1 X.2.1 hd hne (kk H locs ls hP hD hS hl)
theorem g_iN_eq (X : g_Cx p s m args c D A nL cc own cI cJ cZ) {a : Nat} (ha : a < 2 ^ 31) {off : Int} {tgt : Nat} (hd : decode cc pc = .ok (.ifCond .eq off, 3)) (ht : (pc : Int) + off = (tgt : Int)) (kt : a = 0 → g_G p l e R s m args below meth c D A nL kc ks Q ws lv tgt st) (kf : ¬ (a = 0) → g_G p l e R s m args below meth c D A nL kc ks Q ws lv (pc + 3) st) : g_G p l e R s m args below meth c D A nL kc ks Q ws lv pc (.int (nI a) :: st) := by
  have e0 : (0 : Int32).toInt = 0 := rfl
  have ea := nI_toInt ha
  have hq : nI a = 0 ↔ a = 0 := by rw [← Int32.toInt_inj, ea, e0]; omega
  have hl : nI a ≤ 0 ↔ a ≤ 0 := by rw [Int32.le_iff_toInt_le, ea, e0]; omega
  have hg : 0 < nI a ↔ 0 < a := by rw [Int32.lt_iff_toInt_lt, ea, e0]; omega
  exact g_if_eq X hd ht (fun z => kt (by first | exact hq.mp z | exact hl.mp z | exact hg.mp z | exact fun w => z (hq.mpr w))) (fun z => kf (by first | exact fun w => z (hq.mpr w) | exact fun w => z (hl.mpr w) | exact fun w => z (hg.mpr w) | exact hq.mp z | exact fun w => w (hq.mp z)))
theorem g_iN_ne (X : g_Cx p s m args c D A nL cc own cI cJ cZ) {a : Nat} (ha : a < 2 ^ 31) {off : Int} {tgt : Nat} (hd : decode cc pc = .ok (.ifCond .ne off, 3)) (ht : (pc : Int) + off = (tgt : Int)) (kt : ¬ a = 0 → g_G p l e R s m args below meth c D A nL kc ks Q ws lv tgt st) (kf : a = 0 → g_G p l e R s m args below meth c D A nL kc ks Q ws lv (pc + 3) st) : g_G p l e R s m args below meth c D A nL kc ks Q ws lv pc (.int (nI a) :: st) := by
  have e0 : (0 : Int32).toInt = 0 := rfl
  have ea := nI_toInt ha
  have hq : nI a = 0 ↔ a = 0 := by rw [← Int32.toInt_inj, ea, e0]; omega
  have hl : nI a ≤ 0 ↔ a ≤ 0 := by rw [Int32.le_iff_toInt_le, ea, e0]; omega
  have hg : 0 < nI a ↔ 0 < a := by rw [Int32.lt_iff_toInt_lt, ea, e0]; omega
  exact g_if_ne X hd ht (fun z => kt (by first | exact hq.mp z | exact hl.mp z | exact hg.mp z | exact fun w => z (hq.mpr w))) (fun z => kf (by first | exact fun w => z (hq.mpr w) | exact fun w => z (hl.mpr w) | exact fun w => z (hg.mpr w) | exact hq.mp z | exact fun w => w (hq.mp z)))
theorem g_iN_gt (X : g_Cx p s m args c D A nL cc own cI cJ cZ) {a : Nat} (ha : a < 2 ^ 31) {off : Int} {tgt : Nat} (hd : decode cc pc = .ok (.ifCond .gt off, 3)) (ht : (pc : Int) + off = (tgt : Int)) (kt : 0 < a → g_G p l e R s m args below meth c D A nL kc ks Q ws lv tgt st) (kf : ¬ (0 < a) → g_G p l e R s m args below meth c D A nL kc ks Q ws lv (pc + 3) st) : g_G p l e R s m args below meth c D A nL kc ks Q ws lv pc (.int (nI a) :: st) := by
  have e0 : (0 : Int32).toInt = 0 := rfl
  have ea := nI_toInt ha
  have hq : nI a = 0 ↔ a = 0 := by rw [← Int32.toInt_inj, ea, e0]; omega
  have hl : nI a ≤ 0 ↔ a ≤ 0 := by rw [Int32.le_iff_toInt_le, ea, e0]; omega
  have hg : 0 < nI a ↔ 0 < a := by rw [Int32.lt_iff_toInt_lt, ea, e0]; omega
  exact g_if_gt X hd ht (fun z => kt (by first | exact hq.mp z | exact hl.mp z | exact hg.mp z | exact fun w => z (hq.mpr w))) (fun z => kf (by first | exact fun w => z (hq.mpr w) | exact fun w => z (hl.mpr w) | exact fun w => z (hg.mpr w) | exact hq.mp z | exact fun w => w (hq.mp z)))
theorem g_iN_le (X : g_Cx p s m args c D A nL cc own cI cJ cZ) {a : Nat} (ha : a < 2 ^ 31) {off : Int} {tgt : Nat} (hd : decode cc pc = .ok (.ifCond .le off, 3)) (ht : (pc : Int) + off = (tgt : Int)) (kt : a ≤ 0 → g_G p l e R s m args below meth c D A nL kc ks Q ws lv tgt st) (kf : ¬ (a ≤ 0) → g_G p l e R s m args below meth c D A nL kc ks Q ws lv (pc + 3) st) : g_G p l e R s m args below meth c D A nL kc ks Q ws lv pc (.int (nI a) :: st) := by
  have e0 : (0 : Int32).toInt = 0 := rfl
  have ea := nI_toInt ha
  have hq : nI a = 0 ↔ a = 0 := by rw [← Int32.toInt_inj, ea, e0]; omega
  have hl : nI a ≤ 0 ↔ a ≤ 0 := by rw [Int32.le_iff_toInt_le, ea, e0]; omega
  have hg : 0 < nI a ↔ 0 < a := by rw [Int32.lt_iff_toInt_lt, ea, e0]; omega
  exact g_if_le X hd ht (fun z => kt (by first | exact hq.mp z | exact hl.mp z | exact hg.mp z | exact fun w => z (hq.mpr w))) (fun z => kf (by first | exact fun w => z (hq.mpr w) | exact fun w => z (hl.mpr w) | exact fun w => z (hg.mpr w) | exact hq.mp z | exact fun w => w (hq.mp z)))
end GXP
/-- a counter that goes down: one below n -/
def dI (n : Nat) : Int32 := nI n - nI 1
theorem dI_inc (n : Nat) : nI n + Int32.ofInt (-1) = dI n := by
  unfold dI
  rw [Int32.sub_eq_add_neg]
  rfl
theorem dI_s (n : Nat) : dI (n + 1) = nI n := by
  unfold dI
  rw [← nI_add n 1, Int32.add_sub_cancel]
theorem nI_nl0 {n : Nat} (h : n < 2147483648) : ¬ nI n < 0 := by
  intro z
  rw [Int32.lt_iff_toInt_lt, nI_toInt h] at z
  have : (0 : Int32).toInt = 0 := rfl
  omega
theorem kH_L : plainName RL = true := by decide +kernel
