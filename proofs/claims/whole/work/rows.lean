section
-- ===== PART A: goes FIRST, ahead of the names: the tables' words, and 'selects' of the private methods out of them =====
/-- a private method of a class that the tables say can be made, by its rows of tables_1 -/
def lw_okq (q : MethodName × Nat) : Prop := (q.1.cls ≠ "java/lang/invoke/MethodHandle" ∧ q.1.cls ≠ "java/lang/invoke/VarHandle") ∧ Cond.instantiable q.1.cls q.2 ∈ tables_1 ∧ Cond.privateMethod q.1 ∈ tables_1 ∧ Cond.instanceMethod q.1 ∈ tables_1
theorem lw_p0 : lw_okq (⟨"java/lang/Throwable", "fillInStackTrace", "(I)Ljava/lang/Throwable;"⟩, 6) := ⟨⟨by decide +kernel, by decide +kernel⟩, List.mem_of_getElem? (i := 302) (by decide +kernel), List.mem_of_getElem? (i := 300) (by decide +kernel), List.mem_of_getElem? (i := 301) (by decide +kernel)⟩
theorem lw_p1 : lw_okq (⟨"Steamfield$Field", "shutWells", "()V"⟩, 11) := ⟨⟨by decide +kernel, by decide +kernel⟩, List.mem_of_getElem? (i := 25) (by decide +kernel), List.mem_of_getElem? (i := 472) (by decide +kernel), List.mem_of_getElem? (i := 473) (by decide +kernel)⟩
theorem lw_p2 : lw_okq (⟨"Steamfield$Field", "mustShut", "(I)Z"⟩, 11) := ⟨⟨by decide +kernel, by decide +kernel⟩, List.mem_of_getElem? (i := 25) (by decide +kernel), List.mem_of_getElem? (i := 476) (by decide +kernel), List.mem_of_getElem? (i := 477) (by decide +kernel)⟩
theorem lw_p3 : lw_okq (⟨"Steamfield$Field", "drawFromWells", "()V"⟩, 11) := ⟨⟨by decide +kernel, by decide +kernel⟩, List.mem_of_getElem? (i := 25) (by decide +kernel), List.mem_of_getElem? (i := 491) (by decide +kernel), List.mem_of_getElem? (i := 492) (by decide +kernel)⟩
theorem lw_p4 : lw_okq (⟨"Steamfield$Field", "draw", "(I)V"⟩, 11) := ⟨⟨by decide +kernel, by decide +kernel⟩, List.mem_of_getElem? (i := 25) (by decide +kernel), List.mem_of_getElem? (i := 499) (by decide +kernel), List.mem_of_getElem? (i := 500) (by decide +kernel)⟩
theorem lw_p5 : lw_okq (⟨"Steamfield$Field", "sellHeat", "()V"⟩, 11) := ⟨⟨by decide +kernel, by decide +kernel⟩, List.mem_of_getElem? (i := 25) (by decide +kernel), List.mem_of_getElem? (i := 545) (by decide +kernel), List.mem_of_getElem? (i := 546) (by decide +kernel)⟩
theorem lw_p6 : lw_okq (⟨"Steamfield$Field", "giveBack", "()V"⟩, 11) := ⟨⟨by decide +kernel, by decide +kernel⟩, List.mem_of_getElem? (i := 25) (by decide +kernel), List.mem_of_getElem? (i := 549) (by decide +kernel), List.mem_of_getElem? (i := 550) (by decide +kernel)⟩
theorem lw_p7 : lw_okq (⟨"Steamfield$Field", "part", "(IJ)J"⟩, 11) := ⟨⟨by decide +kernel, by decide +kernel⟩, List.mem_of_getElem? (i := 25) (by decide +kernel), List.mem_of_getElem? (i := 562) (by decide +kernel), List.mem_of_getElem? (i := 563) (by decide +kernel)⟩
theorem lw_p8 : lw_okq (⟨"Steamfield$Field", "shake", "()V"⟩, 11) := ⟨⟨by decide +kernel, by decide +kernel⟩, List.mem_of_getElem? (i := 25) (by decide +kernel), List.mem_of_getElem? (i := 571) (by decide +kernel), List.mem_of_getElem? (i := 572) (by decide +kernel)⟩
theorem lw_p9 : lw_okq (⟨"Steamfield$Ground", "flowBetween", "(III)V"⟩, 9) := ⟨⟨by decide +kernel, by decide +kernel⟩, List.mem_of_getElem? (i := 31) (by decide +kernel), List.mem_of_getElem? (i := 586) (by decide +kernel), List.mem_of_getElem? (i := 587) (by decide +kernel)⟩
theorem lw_p10 : lw_okq (⟨"Steamfield$Ground", "flow", "(III)V"⟩, 9) := ⟨⟨by decide +kernel, by decide +kernel⟩, List.mem_of_getElem? (i := 31) (by decide +kernel), List.mem_of_getElem? (i := 590) (by decide +kernel), List.mem_of_getElem? (i := 591) (by decide +kernel)⟩
theorem lw_p11 : lw_okq (⟨"Steamfield$Field", "rainAndWarm", "()V"⟩, 11) := ⟨⟨by decide +kernel, by decide +kernel⟩, List.mem_of_getElem? (i := 25) (by decide +kernel), List.mem_of_getElem? (i := 595) (by decide +kernel), List.mem_of_getElem? (i := 596) (by decide +kernel)⟩
theorem lw_p12 : lw_okq (⟨"Steamfield$Field", "feedSprings", "()V"⟩, 11) := ⟨⟨by decide +kernel, by decide +kernel⟩, List.mem_of_getElem? (i := 25) (by decide +kernel), List.mem_of_getElem? (i := 606) (by decide +kernel), List.mem_of_getElem? (i := 607) (by decide +kernel)⟩
theorem lw_p13 : lw_okq (⟨"Steamfield$Springs", "clearAccounts", "(I)V"⟩, 7) := ⟨⟨by decide +kernel, by decide +kernel⟩, List.mem_of_getElem? (i := 140) (by decide +kernel), List.mem_of_getElem? (i := 615) (by decide +kernel), List.mem_of_getElem? (i := 616) (by decide +kernel)⟩
theorem lw_p14 : lw_okq (⟨"Steamfield$Springs", "toBlame", "(I)I"⟩, 7) := ⟨⟨by decide +kernel, by decide +kernel⟩, List.mem_of_getElem? (i := 140) (by decide +kernel), List.mem_of_getElem? (i := 689) (by decide +kernel), List.mem_of_getElem? (i := 690) (by decide +kernel)⟩
theorem lw_p15 : lw_okq (⟨"SteamfieldModel", "isWell", "(I)Z"⟩, 21) := ⟨⟨by decide +kernel, by decide +kernel⟩, List.mem_of_getElem? (i := 723) (by decide +kernel), List.mem_of_getElem? (i := 833) (by decide +kernel), List.mem_of_getElem? (i := 834) (by decide +kernel)⟩
def lw_privs_1 : List (MethodName × Nat) := [(⟨"java/lang/Throwable", "fillInStackTrace", "(I)Ljava/lang/Throwable;"⟩, 6), (⟨"Steamfield$Field", "shutWells", "()V"⟩, 11), (⟨"Steamfield$Field", "mustShut", "(I)Z"⟩, 11), (⟨"Steamfield$Field", "drawFromWells", "()V"⟩, 11), (⟨"Steamfield$Field", "draw", "(I)V"⟩, 11), (⟨"Steamfield$Field", "sellHeat", "()V"⟩, 11), (⟨"Steamfield$Field", "giveBack", "()V"⟩, 11), (⟨"Steamfield$Field", "part", "(IJ)J"⟩, 11), (⟨"Steamfield$Field", "shake", "()V"⟩, 11), (⟨"Steamfield$Ground", "flowBetween", "(III)V"⟩, 9), (⟨"Steamfield$Ground", "flow", "(III)V"⟩, 9), (⟨"Steamfield$Field", "rainAndWarm", "()V"⟩, 11), (⟨"Steamfield$Field", "feedSprings", "()V"⟩, 11), (⟨"Steamfield$Springs", "clearAccounts", "(I)V"⟩, 7), (⟨"Steamfield$Springs", "toBlame", "(I)I"⟩, 7), (⟨"SteamfieldModel", "isWell", "(I)Z"⟩, 21)]
theorem lw_r1 : ∀ q ∈ lw_privs_1, lw_okq q := List.forall_mem_cons.mpr ⟨lw_p0, List.forall_mem_cons.mpr ⟨lw_p1, List.forall_mem_cons.mpr ⟨lw_p2, List.forall_mem_cons.mpr ⟨lw_p3, List.forall_mem_cons.mpr ⟨lw_p4, List.forall_mem_cons.mpr ⟨lw_p5, List.forall_mem_cons.mpr ⟨lw_p6, List.forall_mem_cons.mpr ⟨lw_p7, List.forall_mem_cons.mpr ⟨lw_p8, List.forall_mem_cons.mpr ⟨lw_p9, List.forall_mem_cons.mpr ⟨lw_p10, List.forall_mem_cons.mpr ⟨lw_p11, List.forall_mem_cons.mpr ⟨lw_p12, List.forall_mem_cons.mpr ⟨lw_p13, List.forall_mem_cons.mpr ⟨lw_p14, List.forall_mem_cons.mpr ⟨lw_p15, fun _ h => absurd h List.not_mem_nil⟩⟩⟩⟩⟩⟩⟩⟩⟩⟩⟩⟩⟩⟩⟩⟩
theorem lw_p16 : lw_okq (⟨"SteamfieldModel", "isSpring", "(I)Z"⟩, 21) := ⟨⟨by decide +kernel, by decide +kernel⟩, List.mem_of_getElem? (i := 723) (by decide +kernel), List.mem_of_getElem? (i := 853) (by decide +kernel), List.mem_of_getElem? (i := 854) (by decide +kernel)⟩
theorem lw_p17 : lw_okq (⟨"SteamfieldModel", "month", "()V"⟩, 21) := ⟨⟨by decide +kernel, by decide +kernel⟩, List.mem_of_getElem? (i := 723) (by decide +kernel), List.mem_of_getElem? (i := 867) (by decide +kernel), List.mem_of_getElem? (i := 868) (by decide +kernel)⟩
theorem lw_p18 : lw_okq (⟨"SteamfieldModel", "shuts", "()V"⟩, 21) := ⟨⟨by decide +kernel, by decide +kernel⟩, List.mem_of_getElem? (i := 723) (by decide +kernel), List.mem_of_getElem? (i := 871) (by decide +kernel), List.mem_of_getElem? (i := 872) (by decide +kernel)⟩
theorem lw_p19 : lw_okq (⟨"SteamfieldModel", "light", "(I)I"⟩, 21) := ⟨⟨by decide +kernel, by decide +kernel⟩, List.mem_of_getElem? (i := 723) (by decide +kernel), List.mem_of_getElem? (i := 875) (by decide +kernel), List.mem_of_getElem? (i := 876) (by decide +kernel)⟩
theorem lw_p20 : lw_okq (⟨"SteamfieldModel", "isDryNear", "(I)Z"⟩, 21) := ⟨⟨by decide +kernel, by decide +kernel⟩, List.mem_of_getElem? (i := 723) (by decide +kernel), List.mem_of_getElem? (i := 881) (by decide +kernel), List.mem_of_getElem? (i := 882) (by decide +kernel)⟩
theorem lw_p21 : lw_okq (⟨"SteamfieldModel", "degrees", "(I)J"⟩, 21) := ⟨⟨by decide +kernel, by decide +kernel⟩, List.mem_of_getElem? (i := 723) (by decide +kernel), List.mem_of_getElem? (i := 888) (by decide +kernel), List.mem_of_getElem? (i := 889) (by decide +kernel)⟩
theorem lw_p22 : lw_okq (⟨"SteamfieldModel", "draws", "(I)J"⟩, 21) := ⟨⟨by decide +kernel, by decide +kernel⟩, List.mem_of_getElem? (i := 723) (by decide +kernel), List.mem_of_getElem? (i := 897) (by decide +kernel), List.mem_of_getElem? (i := 898) (by decide +kernel)⟩
theorem lw_p23 : lw_okq (⟨"SteamfieldModel", "gives", "(IJ)J"⟩, 21) := ⟨⟨by decide +kernel, by decide +kernel⟩, List.mem_of_getElem? (i := 723) (by decide +kernel), List.mem_of_getElem? (i := 902) (by decide +kernel), List.mem_of_getElem? (i := 903) (by decide +kernel)⟩
theorem lw_p24 : lw_okq (⟨"SteamfieldModel", "returns", "(JJ)V"⟩, 21) := ⟨⟨by decide +kernel, by decide +kernel⟩, List.mem_of_getElem? (i := 723) (by decide +kernel), List.mem_of_getElem? (i := 911) (by decide +kernel), List.mem_of_getElem? (i := 912) (by decide +kernel)⟩
theorem lw_p25 : lw_okq (⟨"SteamfieldModel", "quakes", "(I)V"⟩, 21) := ⟨⟨by decide +kernel, by decide +kernel⟩, List.mem_of_getElem? (i := 723) (by decide +kernel), List.mem_of_getElem? (i := 916) (by decide +kernel), List.mem_of_getElem? (i := 917) (by decide +kernel)⟩
theorem lw_p26 : lw_okq (⟨"SteamfieldModel", "cracks", "()V"⟩, 21) := ⟨⟨by decide +kernel, by decide +kernel⟩, List.mem_of_getElem? (i := 723) (by decide +kernel), List.mem_of_getElem? (i := 921) (by decide +kernel), List.mem_of_getElem? (i := 922) (by decide +kernel)⟩
theorem lw_p27 : lw_okq (⟨"SteamfieldModel", "leaks", "(III)V"⟩, 21) := ⟨⟨by decide +kernel, by decide +kernel⟩, List.mem_of_getElem? (i := 723) (by decide +kernel), List.mem_of_getElem? (i := 925) (by decide +kernel), List.mem_of_getElem? (i := 926) (by decide +kernel)⟩
theorem lw_p28 : lw_okq (⟨"SteamfieldModel", "warms", "(I)V"⟩, 21) := ⟨⟨by decide +kernel, by decide +kernel⟩, List.mem_of_getElem? (i := 723) (by decide +kernel), List.mem_of_getElem? (i := 929) (by decide +kernel), List.mem_of_getElem? (i := 930) (by decide +kernel)⟩
theorem lw_p29 : lw_okq (⟨"SteamfieldModel", "springs", "(I)V"⟩, 21) := ⟨⟨by decide +kernel, by decide +kernel⟩, List.mem_of_getElem? (i := 723) (by decide +kernel), List.mem_of_getElem? (i := 936) (by decide +kernel), List.mem_of_getElem? (i := 937) (by decide +kernel)⟩
theorem lw_p30 : lw_okq (⟨"SteamfieldModel", "told", "(II)J"⟩, 21) := ⟨⟨by decide +kernel, by decide +kernel⟩, List.mem_of_getElem? (i := 723) (by decide +kernel), List.mem_of_getElem? (i := 944) (by decide +kernel), List.mem_of_getElem? (i := 945) (by decide +kernel)⟩
theorem lw_p31 : lw_okq (⟨"SteamfieldModel", "toBlame", "(I)I"⟩, 21) := ⟨⟨by decide +kernel, by decide +kernel⟩, List.mem_of_getElem? (i := 723) (by decide +kernel), List.mem_of_getElem? (i := 960) (by decide +kernel), List.mem_of_getElem? (i := 961) (by decide +kernel)⟩
def lw_privs_2 : List (MethodName × Nat) := [(⟨"SteamfieldModel", "isSpring", "(I)Z"⟩, 21), (⟨"SteamfieldModel", "month", "()V"⟩, 21), (⟨"SteamfieldModel", "shuts", "()V"⟩, 21), (⟨"SteamfieldModel", "light", "(I)I"⟩, 21), (⟨"SteamfieldModel", "isDryNear", "(I)Z"⟩, 21), (⟨"SteamfieldModel", "degrees", "(I)J"⟩, 21), (⟨"SteamfieldModel", "draws", "(I)J"⟩, 21), (⟨"SteamfieldModel", "gives", "(IJ)J"⟩, 21), (⟨"SteamfieldModel", "returns", "(JJ)V"⟩, 21), (⟨"SteamfieldModel", "quakes", "(I)V"⟩, 21), (⟨"SteamfieldModel", "cracks", "()V"⟩, 21), (⟨"SteamfieldModel", "leaks", "(III)V"⟩, 21), (⟨"SteamfieldModel", "warms", "(I)V"⟩, 21), (⟨"SteamfieldModel", "springs", "(I)V"⟩, 21), (⟨"SteamfieldModel", "told", "(II)J"⟩, 21), (⟨"SteamfieldModel", "toBlame", "(I)I"⟩, 21)]
theorem lw_r2 : ∀ q ∈ lw_privs_2, lw_okq q := List.forall_mem_cons.mpr ⟨lw_p16, List.forall_mem_cons.mpr ⟨lw_p17, List.forall_mem_cons.mpr ⟨lw_p18, List.forall_mem_cons.mpr ⟨lw_p19, List.forall_mem_cons.mpr ⟨lw_p20, List.forall_mem_cons.mpr ⟨lw_p21, List.forall_mem_cons.mpr ⟨lw_p22, List.forall_mem_cons.mpr ⟨lw_p23, List.forall_mem_cons.mpr ⟨lw_p24, List.forall_mem_cons.mpr ⟨lw_p25, List.forall_mem_cons.mpr ⟨lw_p26, List.forall_mem_cons.mpr ⟨lw_p27, List.forall_mem_cons.mpr ⟨lw_p28, List.forall_mem_cons.mpr ⟨lw_p29, List.forall_mem_cons.mpr ⟨lw_p30, List.forall_mem_cons.mpr ⟨lw_p31, fun _ h => absurd h List.not_mem_nil⟩⟩⟩⟩⟩⟩⟩⟩⟩⟩⟩⟩⟩⟩⟩⟩
def lw_privs : List (MethodName × Nat) := lw_privs_1 ++ (lw_privs_2)
def lw_tbl : List Cond := k2_sels lw_privs ++ tables_1
theorem lw_privs_ok : ∀ q ∈ lw_privs, lw_okq q := by
  show ∀ q ∈ lw_privs_1 ++ (lw_privs_2), lw_okq q
  exact List.forall_mem_append.mpr ⟨lw_r1, lw_r2⟩
/-- the streams that the claim lets the run draw from -/
abbrev lw_cs : List Choice := [Jvm.Choice.named "NaN.bits"]
theorem lw_bits : nanBits ∈ lw_cs := by first | decide | exact List.mem_cons_self | simp [lw_cs, nanBits]
end
section
/-! ===== BEGIN words of one list among another's, by their places ===== -/
theorem goodIn_r {big : List Cond} (ws : List Cond) (ps : List Nat) (hp : ws = ps.filterMap (fun i => big[i]?)) (h : ws.all goodWord = true) : GoodIn big ws := by
  intro w hw
  have h1 := List.all_eq_true.mp h w hw
  rw [hp] at hw
  obtain ⟨i, -, hi⟩ := List.mem_filterMap.mp hw
  have hm : w ∈ big := by first | exact List.mem_of_getElem? hi | exact List.getElem?_mem hi
  exact ⟨hm, good_of_word h1⟩
theorem goodIn_app {big a b : List Cond} (ha : GoodIn big a) (hb : GoodIn big b) : GoodIn big (a ++ b) := fun w h => (List.mem_append.mp h).elim (ha w) (hb w)
theorem goodIn_ca {big a b : List Cond} {c : Cond} (ha : GoodIn big (c :: a)) (hb : GoodIn big b) : GoodIn big (c :: (a ++ b)) := fun w h => (List.mem_cons.mp h).elim (fun e => ha w (List.mem_cons.mpr (Or.inl e))) (fun h => (List.mem_append.mp h).elim (fun h => ha w (List.mem_cons.mpr (Or.inr h))) (hb w))
theorem goodIn_sub {big ws : List Cond} (hm : ∀ w ∈ ws, w ∈ big) (h : ws.all goodWord = true) : GoodIn big ws := fun w hw => ⟨hm w hw, good_of_word (List.all_eq_true.mp h w hw)⟩
/-! ===== END ===== -/

/-! ===== BEGIN exceptions that leave a method, and their catching by the caller (launches without stack traces) ===== -/
section VXA
/-! The laws vx_back, vx_callV, vx_callS, vx_callSW, vx_throw0, vx_throwS follow proofs of the library, with one case more: JvmDerived/Free/Laws.lean (Back.of_free), Shelf42/LK1.lean (callV, callS), Shelf/KitTraced.lean (throwNew0V, throwNewS). -/
/-- where a method has thrown q: the class by its name, the cell, what was written, the world -/
def vx_T (XC : String → State → State → Prop) (st : State) (q : Addr) (t : State) (mc ms : Nat) (free : Addr → Prop) : Prop :=
  ∃ (E : String) (ce : Cell) (L : List Loc), XC E st t ∧ t.heap[q]? = some ce ∧ ce.vm = .none ∧ st.vm.findClass E = some ce.cls ∧ st.WarmedH t.vm ∧ st.sameButNew ({ t with vm := st.vm } : State) L mc ms ∧ ∀ z ∈ L, free z.base
def vx_Q (Qc : Array Value → State → Outcome → State → Prop) (XC : String → State → State → Prop) (mc ms : Nat) (free : Addr → Prop) : Array Value → State → Outcome → State → Prop := fun a st o t =>
  (Qc a st o t ∧ ∃ L, FrameEnd st o t L mc ms ∧ ∀ q ∈ L, free q.base) ∨ ∃ q, o = .threw q ∧ vx_T XC st q t mc ms free
/-- a callee that returns or throws -/
def vx_Met (l : Launch) (y : MethodName) (ws : List Cond) (rm : Room) (Pc : Array Value → State → Prop) (Qc : Array Value → State → Outcome → State → Prop) (XC : String → State → State → Prop) (mc ms : Nat) (free : Addr → Prop) : Prop :=
  MetFree l y (headSpec ws rm) Pc (fun _ _ _ _ _ => True) (vx_Q Qc XC mc ms free)
def vx_Post (XC : String → State → State → Prop) (mc ms : Nat) (free : Addr → Prop) : Pt → Array Value → Addr → Pt → Prop := fun A a q B =>
  ∃ (g : JFrame) (mk : MethodId) (t : State) (L : List Loc) (E : String) (ce : Cell), B.U.heap = t.heap ∧ B.U.vm = t.vm ∧ XC E (A.U.calling g mk a) t ∧ t.heap[q]? = some ce ∧ ce.vm = .none ∧ A.U.vm.findClass E = some ce.cls ∧ B.locs = A.locs ++ L ∧ (∀ z ∈ L, free z.base) ∧ B.cells = A.cells + mc ∧ B.slots = A.slots + ms
def vx_Back (l : Launch) (R : Room) (p : Program) (e : Env) (below : List Frame) (s : State) (sargs : Array Value) (y : MethodName) (len W9 : Nat)
    (Pre : Pt → Array Value → Prop) (Post : Pt → Array Value → Option Value → Pt → Prop) (PostX : Pt → Array Value → Addr → Pt → Prop) : Prop :=
  ∀ (m : MethodId) (meth : Method) (c : Code) (A : Pt) (g : JFrame) (ig : Instr) (mk : MethodId) (a : Array Value),
    Stand p l e R s m sargs below meth c A.U A.locs A.cells A.slots → g.method = m → g.locals.size = c.maxLocals → decode c.code g.pc = .ok (ig, len) →
    2 * g.monitorRoom + (g.stack.map fun v => v.category).sum ≤ W9 → A.U.methodNamed? y = some mk → Pre A a →
    (∃ (v : Option Value) (B : Pt), Stand p l e R s m sargs below meth c B.U B.locs B.cells B.slots ∧ Post A a v B ∧
      Steps p.tables e below (doInvoke e (A.U.setTop g) [] mk a).1 (B.U.setTop { g with pc := g.pc + len, stack := v.toList ++ g.stack })) ∨
    (∃ (q : Addr) (B : Pt), Stand p l e R s m sargs below meth c B.U B.locs B.cells B.slots ∧ PostX A a q B ∧
      Steps p.tables e below (doInvoke e (A.U.setTop g) [] mk a).1 ((B.U.setTop g).pushFrame (.throwing q)))
section Payer
variable {l : Launch} {R : Room} {p : Program} {e : Env} {below : List Frame} {s : State} {sargs : Array Value} {y : MethodName} {len W9 : Nat}
theorem vx_back {ws : List Cond} {rm : Room} {Pc : Array Value → State → Prop} {Qc : Array Value → State → Outcome → State → Prop} {XC : String → State → State → Prop} {mc ms : Nat} {free : Addr → Prop} {bytes : ByteArray} {maxL : Nat} {ret : Option FieldType}
    (hM : vx_Met l y ws rm Pc Qc XC mc ms free) (hblind : FrameBlind Pc) (hrc : rm.cells = mc) (hrs : rm.slots = ms)
    (hframes : rm.frames + 1 ≤ R.frames) (hlocals : W9 + (maxL + 11) + rm.locals ≤ R.locals)
    (hws : ∀ w ∈ ws, ∀ a' U, s.WarmedH U.vm → w.before a' U = true) (hcode : Cond.code y bytes maxL ret ∈ ws) (hinit : ∀ a' U, s.WarmedH U.vm → (Cond.initialized y.cls).before a' U = true) :
    vx_Back l R p e below s sargs y len W9 (PreOf R mc ms Pc) (PostOf Qc mc ms free) (vx_Post XC mc ms free) := by
  intro m meth c A g ig mk a X hg hsize hdg hW hn hp
  have h1 : (headSpec ws rm).pre.before a A.U = true := atoms_intro fun w hw => hws w hw _ _ X.warmed
  have h2 : (Cond.code y bytes maxL ret).before a A.U = true := hws _ hcode _ _ X.warmed
  have h3 : (Cond.initialized y.cls).before a A.U = true := hinit _ _ X.warmed
  have h4 : A.cells + (headSpec ws rm).room.cells ≤ R.cells := by rw [show (headSpec ws rm).room.cells = mc from hrc]; exact hp.1
  have h5 : A.slots + (headSpec ws rm).room.slots ≤ R.slots := by rw [show (headSpec ws rm).room.slots = ms from hrs]; exact hp.2.1
  have hPc : Pc a (A.U.calling g mk a) := hblind _ _ _ _ hp.2.2
  obtain ⟨U, Ls, c0, s0⟩ := A
  dsimp only [Pt.U, Pt.locs, Pt.cells, Pt.slots] at h1 h2 h3 h4 h5 X hn hPc ⊢
  obtain ⟨methY, cY, hmY, hcY, -, hlY, -, -, -, -⟩ := Cond.code_spec hn h2
  obtain ⟨kY, hkY, -⟩ := className_of_methodNamed hn
  have hinitY : kY.init = .initialized := Cond.initialized_spec (findClass_of_methodNamed hn) hkY h3
  have h : At U g.method c below := by rw [hg]; exact X.here
  have hlocals9 : W9 + (maxL + 11) + (headSpec ws rm).room.locals ≤ R.locals := hlocals
  have happ : (headSpec ws rm).appliesLoose y e.platform (U.calling g mk a) = true :=
    Spec.appliesLoose_calling (g := g) h hdg hn hkY hinitY
      (X.room_calling (g := g) (R' := (headSpec ws rm).room) hsize hmY hcY hframes (by rw [hlY]; omega) h4 h5) h1
  obtain ⟨mid, hmid⟩ := h.above
  have hfr : (U.setTop g).frames = (.java g :: mid) ++ below := by rw [State.frames_setTop' g h.top, hmid]; rfl
  obtain ⟨o, s₂, hsteps, -, hend, hq⟩ := Steps.callFree hM p X.admits X.cas X.clock (acts := []) hfr happ hPc trivial
  have hq' : vx_Q Qc XC mc ms free a (U.calling g mk a) o s₂ := hq
  rw [State.frames_setTop' g h.top] at hend
  obtain ⟨g₀, hg0⟩ := Option.isSome_iff_exists.mp h.top
  obtain ⟨r, hr⟩ := State.topJava?_eq_some.mp hg0
  have hr' : (({ U with heap := s₂.heap, slotsUsed := s₂.slotsUsed } : State).setVm s₂.vm).frames = .java g₀ :: r := hr
  rcases hq' with ⟨hqc, L, hfe, hL⟩ | ⟨q, rfl, E, ce, L, hx, hce, hcv, hcl, hW₂, hsm, hL⟩
  · obtain ⟨⟨v, rfl⟩, hW₂, e2, q2, q3, q4, q5, q6⟩ := id hfe
    have e3 : s₂ = ({ (U.calling g mk a).setFrames s₂.frames with heap := s₂.heap, slotsUsed := s₂.slotsUsed } : State).setVm s₂.vm := by
      have : s₂ = ({ s₂ with vm := (U.calling g mk a).vm } : State).setVm s₂.vm := rfl
      rw [e2] at this
      exact this
    obtain ⟨c₂, i₂, len₂, hc₂, hd₂, hf₂⟩ := hend
    have hW' : U.WarmedH s₂.vm := hW₂
    have hcc : c₂ = c := by
      have h1 : s₂.code? g.method = U.code? g.method := by
        rw [State.code?_eq, State.code?_eq, hW'.alike.method?]
      exact Option.some.inj (hc₂.symm.trans (h1.trans h.code))
    subst hcc
    have hlen : len₂ = len := by rw [hdg] at hd₂; cases hd₂; rfl
    subst hlen
    have hs₂ : s₂ = (({ U with heap := s₂.heap, slotsUsed := s₂.slotsUsed } : State).setVm s₂.vm).setTop { g with pc := g.pc + len₂, stack := v.toList ++ g.stack } := by
      refine e3.trans ?_
      rw [hf₂, State.calling_eq h.top, State.setFrames_setFrames, State.setTop_of_frames _ hr', hr]
      rfl
    have hsame : U.sameButNew ({ U with heap := s₂.heap, slotsUsed := s₂.slotsUsed } : State) L mc ms := by
      refine ⟨?_, q2, q3, q4, q5, q6⟩
      obtain ⟨t, ht, -⟩ := State.frames_cons hr
      show ({ U with heap := s₂.heap, slotsUsed := s₂.slotsUsed } : State) = { U.setFrames U.frames with heap := s₂.heap, slotsUsed := s₂.slotsUsed }
      rw [State.setFrames_self ht]
    subst hg
    refine Or.inl ⟨v, ⟨(({ U with heap := s₂.heap, slotsUsed := s₂.slotsUsed } : State).setVm s₂.vm), Ls ++ L, c0 + mc, s0 + ms⟩,
      ⟨X.admits, X.cas, X.clock, X.frames, X.room, X.hears, X.method, X.code, (X.here.setHeapUsed s₂.heap s₂.slotsUsed).setVm hW'.alike, X.tail, State.WarmedH.trans X.warmed hW', X.limits, X.bytes, X.same.trans (hsame.setVm s.vm)⟩,
      ⟨g, mk, s₂, L, rfl, rfl, hqc, rfl, hL, rfl, rfl⟩, ?_⟩
    show Steps p.tables e below _ ((({ U with heap := s₂.heap, slotsUsed := s₂.slotsUsed } : State).setVm s₂.vm).setTop { g with pc := g.pc + len₂, stack := v.toList ++ g.stack })
    rw [← hs₂]
    exact hsteps
  · obtain ⟨e2, q2, q3, q4, q5, q6⟩ := id hsm
    have e3 : s₂ = ({ (U.calling g mk a).setFrames s₂.frames with heap := s₂.heap, slotsUsed := s₂.slotsUsed } : State).setVm s₂.vm := by
      have : s₂ = ({ s₂ with vm := (U.calling g mk a).vm } : State).setVm s₂.vm := rfl
      rw [e2] at this
      exact this
    have hf₂ : s₂.frames = .throwing q :: .java g :: U.frames.tail := hend
    have hW' : U.WarmedH s₂.vm := hW₂
    have hs₂ : s₂ = ((({ U with heap := s₂.heap, slotsUsed := s₂.slotsUsed } : State).setVm s₂.vm).setTop g).pushFrame (.throwing q) := by
      refine e3.trans ?_
      rw [hf₂, State.calling_eq h.top, State.setFrames_setFrames, State.pushFrame, State.frames_setTop _ hr', State.setTop_of_frames _ hr', State.setFrames_setFrames, hr]
      rfl
    have hsame : U.sameButNew ({ U with heap := s₂.heap, slotsUsed := s₂.slotsUsed } : State) L mc ms := by
      refine ⟨?_, q2, q3, q4, q5, q6⟩
      obtain ⟨t, ht, -⟩ := State.frames_cons hr
      show ({ U with heap := s₂.heap, slotsUsed := s₂.slotsUsed } : State) = { U.setFrames U.frames with heap := s₂.heap, slotsUsed := s₂.slotsUsed }
      rw [State.setFrames_self ht]
    subst hg
    refine Or.inr ⟨q, ⟨(({ U with heap := s₂.heap, slotsUsed := s₂.slotsUsed } : State).setVm s₂.vm), Ls ++ L, c0 + mc, s0 + ms⟩,
      ⟨X.admits, X.cas, X.clock, X.frames, X.room, X.hears, X.method, X.code, (X.here.setHeapUsed s₂.heap s₂.slotsUsed).setVm hW'.alike, X.tail, State.WarmedH.trans X.warmed hW', X.limits, X.bytes, X.same.trans (hsame.setVm s.vm)⟩,
      ⟨g, mk, s₂, L, E, ce, rfl, rfl, hx, hce, hcv, hcl, rfl, hL, rfl, rfl⟩, ?_⟩
    show Steps p.tables e below _ (((({ U with heap := s₂.heap, slotsUsed := s₂.slotsUsed } : State).setVm s₂.vm).setTop g).pushFrame (.throwing q))
    rw [← hs₂]
    exact hsteps
end Payer
section Calls
variable {p : Program} {l : Launch} {e : Env} {R : Room} {s : State} {m : MethodId} {args : Array Value} {below : List Frame} {meth : Method} {c : Code} {T : State} {locs : List Loc} {cells slots : Nat}
theorem vx_callV (X : Stand p l e R s m args below meth c T locs cells slots) (hexec : p.tables.exec = Jvm.exec) {own C : String} {index : Nat} {y : MethodName} {bytes : ByteArray} {maxL : Nat} {ret : Option FieldType}
    (hown : s.vm.findClass own = some m.cls) (hlink : (Cond.methodLink own index y).before args s = true) (hinst : (Cond.instanceMethod y).before args s = true) (hsel : (Cond.selects C y y).before args s = true)
    (hcode : (Cond.code y bytes maxL ret).before args s = true) (hy : y.cls ≠ "java/lang/invoke/MethodHandle" ∧ y.cls ≠ "java/lang/invoke/VarHandle")
    {W9 : Nat} {Pre : Pt → Array Value → Prop} {Post : Pt → Array Value → Option Value → Pt → Prop} {PostX : Pt → Array Value → Addr → Pt → Prop} (hK : vx_Back l R p e below s args y 3 W9 Pre Post PostX)
    {b : Addr} {cellB : Cell} (hcell : T.heap[b]? = some cellB) (hobj : cellB.vm.isStatics = false) (hcls : s.vm.findClass C = some cellB.cls)
    {g : JFrame} (hg : g.method = m) (hsize : g.locals.size = c.maxLocals) {argsL rest : List Value} (hlen : ∀ sig, parseMethodDescriptor y.desc = some sig → argsL.length = sig.parameters.length)
    (hstack : g.stack = argsL.reverse ++ .ref b :: rest) (hW : 2 * g.monitorRoom + (rest.map fun v => v.category).sum ≤ W9) (hdg : decode c.code g.pc = .ok (.invokevirtual index, 3))
    (hpre : ∀ vm₁, s.WarmedH vm₁ → Pre ⟨T.setVm vm₁, locs, cells, slots⟩ (Value.ref b :: argsL).toArray) :
    (∃ (v : Option Value) (vm₁ : Vm) (B : Pt), s.WarmedH vm₁ ∧ Stand p l e R s m args below meth c B.U B.locs B.cells B.slots ∧ Post ⟨T.setVm vm₁, locs, cells, slots⟩ (Value.ref b :: argsL).toArray v B ∧
      ∀ target, Steps p.tables e below (B.U.setTop { g with pc := g.pc + 3, stack := v.toList ++ rest }) target → Steps p.tables e below (T.setTop g) target) ∨
    (∃ (q : Addr) (vm₁ : Vm) (B : Pt), s.WarmedH vm₁ ∧ Stand p l e R s m args below meth c B.U B.locs B.cells B.slots ∧ PostX ⟨T.setVm vm₁, locs, cells, slots⟩ (Value.ref b :: argsL).toArray q B ∧
      Steps p.tables e below (T.setTop g) ((B.U.setTop { g with stack := rest }).pushFrame (.throwing q))) := by
  obtain ⟨mk, methM, hnamed, hmethM, hstM, habM⟩ := Cond.instanceMethod_spec hinst
  obtain ⟨methM', cM, hmethM', -, -, -, -, -, -, hsigM⟩ := Cond.code_spec hnamed hcode
  cases hmethM.symm.trans hmethM'
  obtain ⟨c2, r2, m2, q1, q2, q3, q4, kP, hkP, hkPi⟩ := Cond.selects_spec hsel
  cases hcls.symm.trans q1
  cases (State.methodFound?_of_named hnamed hy).symm.trans q2
  cases hnamed.symm.trans q3
  have hselP : selectMethod e.platform s.vm cellB.cls mk = .method mk := by rw [Launch.admits_selectMethod X.admits]; exact q4
  obtain ⟨vm₁, X₁, hstep₁⟩ := X.invokevirtual hexec hown hlink hnamed hmethM hstM hkP hkPi hy (a := b) (cell := cellB) hcell
    (fun z h => by rw [h] at hobj; cases hobj) hselP hmethM habM hkP hkPi (g := g) hg (argsL := argsL) (rest := rest) (hlen _ hsigM) hstack hdg
  rcases hK m meth c ⟨T.setVm vm₁, locs, cells, slots⟩ { g with stack := rest } (.invokevirtual index) mk (Value.ref b :: argsL).toArray X₁ hg hsize hdg hW (X₁.named hnamed) (hpre vm₁ X₁.warmed) with ⟨v, B, X', hpost, hsteps⟩ | ⟨q, B, X', hpost, hsteps⟩
  · exact Or.inl ⟨v, vm₁, B, X₁.warmed, X', hpost, fun target h => hstep₁ _ fun acts => by rw [doInvoke_state]; exact hsteps.trans h⟩
  · exact Or.inr ⟨q, vm₁, B, X₁.warmed, X', hpost, hstep₁ _ fun acts => by rw [doInvoke_state]; exact hsteps⟩
theorem vx_callS (X : Stand p l e R s m args below meth c T locs cells slots) (hexec : p.tables.exec = Jvm.exec) {own : String} {index : Nat} {y : MethodName} {bytes : ByteArray} {maxL : Nat} {ret : Option FieldType}
    (hown : s.vm.findClass own = some m.cls) (hlink : (Cond.methodLink own index y).before args s = true) (hstat : (Cond.static y).before args s = true) (hinit : (Cond.initialized y.cls).before args s = true)
    (hcode : (Cond.code y bytes maxL ret).before args s = true) (hy : y.cls ≠ "java/lang/invoke/MethodHandle" ∧ y.cls ≠ "java/lang/invoke/VarHandle")
    {W9 : Nat} {Pre : Pt → Array Value → Prop} {Post : Pt → Array Value → Option Value → Pt → Prop} {PostX : Pt → Array Value → Addr → Pt → Prop} (hK : vx_Back l R p e below s args y 3 W9 Pre Post PostX)
    {g : JFrame} (hg : g.method = m) (hsize : g.locals.size = c.maxLocals) {argsL rest : List Value} (hlen : ∀ sig, parseMethodDescriptor y.desc = some sig → argsL.length = sig.parameters.length)
    (hstack : g.stack = argsL.reverse ++ rest) (hW : 2 * g.monitorRoom + (rest.map fun v => v.category).sum ≤ W9) (hdg : decode c.code g.pc = .ok (.invokestatic index, 3))
    (hpre : ∀ vm₁, s.WarmedH vm₁ → Pre ⟨T.setVm vm₁, locs, cells, slots⟩ argsL.toArray) :
    (∃ (v : Option Value) (vm₁ : Vm) (B : Pt), s.WarmedH vm₁ ∧ Stand p l e R s m args below meth c B.U B.locs B.cells B.slots ∧ Post ⟨T.setVm vm₁, locs, cells, slots⟩ argsL.toArray v B ∧
      ∀ target, Steps p.tables e below (B.U.setTop { g with pc := g.pc + 3, stack := v.toList ++ rest }) target → Steps p.tables e below (T.setTop g) target) ∨
    (∃ (q : Addr) (vm₁ : Vm) (B : Pt), s.WarmedH vm₁ ∧ Stand p l e R s m args below meth c B.U B.locs B.cells B.slots ∧ PostX ⟨T.setVm vm₁, locs, cells, slots⟩ argsL.toArray q B ∧
      Steps p.tables e below (T.setTop g) ((B.U.setTop { g with stack := rest }).pushFrame (.throwing q))) := by
  obtain ⟨mk, hnamed⟩ := Cond.code_named hcode
  obtain ⟨methM, cM, hmethM, -, -, -, -, -, -, hsigM⟩ := Cond.code_spec hnamed hcode
  have hstatic : methM.isStatic = true := Cond.static_spec hnamed hmethM hstat
  obtain ⟨kP, hkP, -⟩ := className_of_methodNamed hnamed
  have hinitP : kP.init = .initialized := Cond.initialized_spec (findClass_of_methodNamed hnamed) hkP hinit
  obtain ⟨vm₁, X₁, hstep₁⟩ := X.invokestatic hexec hown hlink hnamed hmethM hstatic hkP hinitP hy (g := g) hg (argsL := argsL) (rest := rest) (hlen _ hsigM) hstack hdg
  rcases hK m meth c ⟨T.setVm vm₁, locs, cells, slots⟩ { g with stack := rest } (.invokestatic index) mk argsL.toArray X₁ hg hsize hdg hW (X₁.named hnamed) (hpre vm₁ X₁.warmed) with ⟨v, B, X', hpost, hsteps⟩ | ⟨q, B, X', hpost, hsteps⟩
  · exact Or.inl ⟨v, vm₁, B, X₁.warmed, X', hpost, fun target h => hstep₁ _ fun acts => by rw [doInvoke_state]; exact hsteps.trans h⟩
  · exact Or.inr ⟨q, vm₁, B, X₁.warmed, X', hpost, hstep₁ _ fun acts => by rw [doInvoke_state]; exact hsteps⟩
end Calls
theorem vx_cls {s : State} {T : State} {vm₁ : Vm} {E : String} {k : ClassId} (hW : s.WarmedH vm₁) (h : (T.setVm vm₁).vm.findClass E = some k) : s.vm.findClass E = some k := by
  have h1 : vm₁.findClass E = some k := h
  rw [hW.alike.findClass] at h1
  exact h1
/-- the method's frame g, with q thrown over it -/
def vx_W (p : Program) (l : Launch) (e : Env) (R : Room) (s : State) (m : MethodId) (args : Array Value) (below : List Frame) (meth : Method) (c : Code) (H : Heap) (locs : List Loc) (cells slots : Nat) (Q : State → Prop) (g : JFrame) (q : Addr) : Prop :=
  ∀ T : State, T.heap = H → Stand p l e R s m args below meth c T locs cells slots → ∃ t, Steps p.tables e below ((T.setTop g).pushFrame (.throwing q)) t ∧ Q t
def vx_Run (p : Program) (l : Launch) (e : Env) (R : Room) (s : State) (m : MethodId) (args : Array Value) (below : List Frame) (meth : Method) (c : Code) (H : Heap) (locs : List Loc) (cells slots mc ms : Nat) (g : JFrame) (rest : List Value) (Qa : State → Outcome → State → Prop) (XC : String → State → State → Prop) (free : Addr → Prop) : Prop :=
  ∀ T : State, T.heap = H → Stand p l e R s m args below meth c T locs cells slots →
    (∃ (v : Option Value) (st₀ t T' : State) (L : List Loc), st₀.heap = H ∧ Stand p l e R s m args below meth c T' (locs ++ L) (cells + mc) (slots + ms) ∧ (∀ q ∈ L, free q.base) ∧ T'.heap = t.heap ∧ T'.vm = t.vm ∧ Qa st₀ (.returned v) t ∧
      Goes p e below T g T' { g with pc := g.pc + 3, stack := v.toList ++ rest }) ∨
    (∃ (q : Addr) (st₀ t T' : State) (L : List Loc) (E : String) (ce : Cell), st₀.heap = H ∧ Stand p l e R s m args below meth c T' (locs ++ L) (cells + mc) (slots + ms) ∧ (∀ z ∈ L, free z.base) ∧ T'.heap = t.heap ∧ T'.vm = t.vm ∧ XC E st₀ t ∧ t.heap[q]? = some ce ∧ ce.vm = .none ∧ s.vm.findClass E = some ce.cls ∧
      Steps p.tables e below (T.setTop g) ((T'.setTop { g with stack := rest }).pushFrame (.throwing q)))
def vx_X {S : Type} (px : S → Prop) (B : String → S → State → Prop) (A : Nat → Prop) : String → State → State → Prop := fun E st t => ∃ u : S, px u ∧ B E u t ∧ va_F A st t
section Runs
variable {p : Program} {l : Launch} {e : Env} {R : Room} {s : State} {m : MethodId} {args : Array Value} {below : List Frame} {meth : Method} {c : Code} {H : Heap} {locs : List Loc} {cells slots : Nat}
variable {y : MethodName} {bytes cc : ByteArray} {maxL nL mc ms n index : Nat} {ret : Option FieldType} {ws : List Cond} {rm : Room} {Pc : Array Value → State → Prop} {Qc : Array Value → State → Outcome → State → Prop} {XC : String → State → State → Prop} {free : Addr → Prop} {Ts : List Cond} {own C : String} {b : Addr} {As rest : List Value} {g : JFrame}
theorem vx_callBack (cb : CallB R s args own index y bytes maxL ret ws rm mc ms n) (hM : vx_Met l y ws rm Pc Qc XC mc ms free) (hbl : FrameBlind Pc) : vx_Back l R p e below s args y 3 8 (PreOf R mc ms Pc) (PostOf Qc mc ms free) (vx_Post XC mc ms free) := by
  obtain ⟨hrc, hrs, hfr, hlo, hws, hcw, -, hini, -⟩ := cb
  exact vx_back (bytes := bytes) (maxL := maxL) (ret := ret) hM hbl hrc hrs hfr hlo hws hcw (fun a' U hW => word_at hW (Or.inl (by first | rfl | simp [Cond.onTables, Cond.keeps, Cond.steady])) hini)
theorem vx_runV (S : CallFix p m c cc nL s args Ts own) (hM : vx_Met l y ws rm Pc Qc XC mc ms free) (cw : CallW R s args own C index y bytes maxL ret ws rm mc ms n) (hp : PreV s H C b Pc As)
    (hg : g.method = m) (hn : As.length = n) (hsize : g.locals.size = nL) (hstack : g.stack = As.reverse ++ .ref b :: rest) (hW : 2 * g.monitorRoom + (rest.map fun v => v.category).sum ≤ 8) (hdg : decode cc g.pc = .ok (.invokevirtual index, 3)) (hf : cells + mc ≤ R.cells ∧ slots + ms ≤ R.slots) :
    vx_Run p l e R s m args below meth c H locs cells slots mc ms g rest (Qc (Value.ref b :: As).toArray) XC free := by
  have hK : vx_Back l R p e below s args y 3 8 (PreOf R mc ms Pc) (PostOf Qc mc ms free) (vx_Post XC mc ms free) := vx_callBack cw.1 hM hp.1
  obtain ⟨⟨-, -, -, -, -, -, hcode, -, hy, hlen, hl⟩, hin, hse⟩ := cw
  obtain ⟨hx, hb, hml, ho, -⟩ := S
  obtain ⟨-, ⟨cellB, hcB, hoB, hclB⟩, hPc⟩ := hp
  intro T hT X
  rcases vx_callV X hx (C := C) (bytes := bytes) (maxL := maxL) (ret := ret) ho hl hin hse hcode hy hK (by rw [hT]; exact hcB) hoB hclB hg (hsize.trans hml.symm) (argsL := As) (rest := rest) (fun sig h => hn.trans (hlen sig h)) hstack hW (by rw [hb]; exact hdg)
    (fun vm₁ hW₁ => ⟨hf.1, hf.2, hPc (T.setVm vm₁) hT hW₁⟩) with ⟨v, vm₁, ⟨U', l2, c2, s2⟩, hW₁, X', ⟨g', mk, t, L, e1, e2, hq, h1, hL, h2, h3⟩, st⟩ | ⟨q, vm₁, ⟨U', l2, c2, s2⟩, hW₁, X', ⟨g', mk, t, L, E, ce, e1, e2, hq, hce, hcv, hcl, h1, hL, h2, h3⟩, st⟩
  · dsimp only [Pt.U, Pt.locs, Pt.cells, Pt.slots] at X' e1 e2 h1 h2 h3 st
    subst h1; subst h2; subst h3
    exact Or.inl ⟨v, (T.setVm vm₁).calling g' mk (Value.ref b :: As).toArray, t, U', L, hT, X', hL, e1, e2, hq, st⟩
  · dsimp only [Pt.U, Pt.locs, Pt.cells, Pt.slots] at X' e1 e2 h1 h2 h3 st hcl
    subst h1; subst h2; subst h3
    exact Or.inr ⟨q, (T.setVm vm₁).calling g' mk (Value.ref b :: As).toArray, t, U', L, E, ce, hT, X', hL, e1, e2, hq, hce, hcv, vx_cls hW₁ hcl, st⟩
theorem vx_runS (S : CallFix p m c cc nL s args Ts own) (hM : vx_Met l y ws rm Pc Qc XC mc ms free) (cw : CallB R s args own index y bytes maxL ret ws rm mc ms n ∧ (Cond.static y).before args s = true) (hp : PreS s H Pc As)
    (hg : g.method = m) (hn : As.length = n) (hsize : g.locals.size = nL) (hstack : g.stack = As.reverse ++ rest) (hW : 2 * g.monitorRoom + (rest.map fun v => v.category).sum ≤ 8) (hdg : decode cc g.pc = .ok (.invokestatic index, 3)) (hf : cells + mc ≤ R.cells ∧ slots + ms ≤ R.slots) :
    vx_Run p l e R s m args below meth c H locs cells slots mc ms g rest (Qc As.toArray) XC free := by
  have hK : vx_Back l R p e below s args y 3 8 (PreOf R mc ms Pc) (PostOf Qc mc ms free) (vx_Post XC mc ms free) := vx_callBack cw.1 hM hp.1
  obtain ⟨⟨-, -, -, -, -, -, hcode, hini, hy, hlen, hl⟩, hstt⟩ := cw
  obtain ⟨hx, hb, hml, ho, -⟩ := S
  intro T hT X
  rcases vx_callS X hx (bytes := bytes) (maxL := maxL) (ret := ret) ho hl hstt hini hcode hy hK hg (hsize.trans hml.symm) (argsL := As) (rest := rest) (fun sig h => hn.trans (hlen sig h)) hstack hW (by rw [hb]; exact hdg)
    (fun vm₁ hW₁ => ⟨hf.1, hf.2, hp.2 (T.setVm vm₁) hT hW₁⟩) with ⟨v, vm₁, ⟨U', l2, c2, s2⟩, hW₁, X', ⟨g', mk, t, L, e1, e2, hq, h1, hL, h2, h3⟩, st⟩ | ⟨q, vm₁, ⟨U', l2, c2, s2⟩, hW₁, X', ⟨g', mk, t, L, E, ce, e1, e2, hq, hce, hcv, hcl, h1, hL, h2, h3⟩, st⟩
  · dsimp only [Pt.U, Pt.locs, Pt.cells, Pt.slots] at X' e1 e2 h1 h2 h3 st
    subst h1; subst h2; subst h3
    exact Or.inl ⟨v, (T.setVm vm₁).calling g' mk As.toArray, t, U', L, hT, X', hL, e1, e2, hq, st⟩
  · dsimp only [Pt.U, Pt.locs, Pt.cells, Pt.slots] at X' e1 e2 h1 h2 h3 st hcl
    subst h1; subst h2; subst h3
    exact Or.inr ⟨q, (T.setVm vm₁).calling g' mk As.toArray, t, U', L, E, ce, hT, X', hL, e1, e2, hq, hce, hcv, vx_cls hW₁ hcl, st⟩
end Runs
section Rows
variable {p : Program} {l : Launch} {e : Env} {R : Room} {s : State} {m : MethodId} {args : Array Value} {below : List Frame} {meth : Method} {c : Code} {H : Heap} {locs : List Loc} {cells slots : Nat} {Q : State → Prop}
variable {mc ms : Nat} {free : Addr → Prop} {A0 A1 : Nat → Prop} {H0 : Heap} {a : Array Value} {pc : Nat} {ls : Array Slot} {st0 rest : List Value}
theorem vx_keep {st₀ t T' : State} {L : List Loc} (h0 : st₀.heap = H) (e1 : T'.heap = t.heap) (hS : va_S A0 H0 H locs) (hA : ∀ q, q < H.size → A1 q → A0 q) (hf : ∀ q, free q → A0 q) (hL : ∀ q ∈ L, free q.base) (hF : va_F A1 st₀ t) :
    H.size ≤ T'.heap.size ∧ (∀ q : Nat, q < H.size → ¬ A1 q → T'.heap[q]? = H[q]?) ∧ va_S A0 H0 T'.heap (locs ++ L) := by
  obtain ⟨hz, hk⟩ := hF
  rw [h0] at hz hk
  exact ⟨by rw [e1]; exact hz, fun q h1 h2 => by rw [e1]; exact hk q h1 h2,
    ⟨Nat.le_trans hS.1 (by rw [e1]; exact hz), fun q h1 h2 => by rw [e1, hk q (Nat.lt_of_lt_of_le h1 hS.1) (fun z => h2 (hA q (Nat.lt_of_lt_of_le h1 hS.1) z))]; exact hS.2.1 q h1 h2, fun q hq => by
      rcases List.mem_append.mp hq with h | h
      · exact hS.2.2 q h
      · exact hf _ (hL q h)⟩⟩
theorem vx_calli {S SX : Type} {post : Int32 → S → Prop} {px : SX → Prop} {B : S → State → Prop} {BX : String → SX → State → Prop} {AX : Nat → Prop} (hr : vx_Run p l e R s m args below meth c H locs cells slots mc ms (F0 m pc ls st0) rest (va_Qi post B A1 a) (vx_X px BX AX) free) (hS : va_S A0 H0 H locs) (hA : ∀ q, q < H.size → A1 q → A0 q) (hf : ∀ q, free q → A0 q) (hAX : ∀ q, q < H.size → AX q → A0 q)
    (kx : ∀ (E : String) (ce : Cell) (q9 : Addr) (u : SX) (t : State) (H1 : Heap) (locs1 : List Loc), t.heap = H1 → s.vm.Alike t.vm → px u → BX E u t → H.size ≤ H1.size → (∀ q : Nat, q < H.size → ¬ AX q → H1[q]? = H[q]?) → va_S A0 H0 H1 locs1 → H1[q9]? = some ce → ce.vm = .none → s.vm.findClass E = some ce.cls → vx_W p l e R s m args below meth c H1 locs1 (cells + mc) (slots + ms) Q (F0 m pc ls rest) q9)
    (kk : ∀ (r : Int32) (u : S) (t : State) (H1 : Heap) (locs1 : List Loc), t.heap = H1 → s.vm.Alike t.vm → post r u → B u t → H.size ≤ H1.size → (∀ q : Nat, q < H.size → ¬ A1 q → H1[q]? = H[q]?) → va_S A0 H0 H1 locs1 → W p l e R s m args below meth c H1 locs1 (cells + mc) (slots + ms) Q (F0 m (pc + 3) ls (.int r :: rest))) : W p l e R s m args below meth c H locs cells slots Q (F0 m pc ls st0) := by
  intro T hT X
  rcases hr T hT X with ⟨v, st₀, t, T', L, h0, X', hL, e1, e2, ⟨⟨r, u, hv, hp, hb⟩, hF⟩, st⟩ | ⟨q, st₀, t, T', L, E, ce, h0, X', hL, e1, e2, ⟨u, hp, hb, hF⟩, hce, hcv, hcl, st⟩
  · cases hv
    obtain ⟨k1, k2, k3⟩ := vx_keep h0 e1 hS hA hf hL hF
    obtain ⟨t2, a1, b1⟩ := kk r u t T'.heap (locs ++ L) e1.symm (by rw [← e2]; exact X'.warmed.alike) hp hb k1 k2 k3 T' rfl X'
    exact ⟨t2, st t2 a1, b1⟩
  · obtain ⟨k1, k2, k3⟩ := vx_keep h0 e1 hS hAX hf hL hF
    obtain ⟨t2, a1, b1⟩ := kx E ce q u t T'.heap (locs ++ L) e1.symm (by rw [← e2]; exact X'.warmed.alike) hp hb k1 k2 k3 (by rw [e1]; exact hce) hcv hcl T' rfl X'
    exact ⟨t2, st.trans a1, b1⟩
theorem vx_calll {S SX : Type} {post : Int64 → S → Prop} {px : SX → Prop} {B : S → State → Prop} {BX : String → SX → State → Prop} {AX : Nat → Prop} (hr : vx_Run p l e R s m args below meth c H locs cells slots mc ms (F0 m pc ls st0) rest (va_Ql post B A1 a) (vx_X px BX AX) free) (hS : va_S A0 H0 H locs) (hA : ∀ q, q < H.size → A1 q → A0 q) (hf : ∀ q, free q → A0 q) (hAX : ∀ q, q < H.size → AX q → A0 q)
    (kx : ∀ (E : String) (ce : Cell) (q9 : Addr) (u : SX) (t : State) (H1 : Heap) (locs1 : List Loc), t.heap = H1 → s.vm.Alike t.vm → px u → BX E u t → H.size ≤ H1.size → (∀ q : Nat, q < H.size → ¬ AX q → H1[q]? = H[q]?) → va_S A0 H0 H1 locs1 → H1[q9]? = some ce → ce.vm = .none → s.vm.findClass E = some ce.cls → vx_W p l e R s m args below meth c H1 locs1 (cells + mc) (slots + ms) Q (F0 m pc ls rest) q9)
    (kk : ∀ (r : Int64) (u : S) (t : State) (H1 : Heap) (locs1 : List Loc), t.heap = H1 → s.vm.Alike t.vm → post r u → B u t → H.size ≤ H1.size → (∀ q : Nat, q < H.size → ¬ A1 q → H1[q]? = H[q]?) → va_S A0 H0 H1 locs1 → W p l e R s m args below meth c H1 locs1 (cells + mc) (slots + ms) Q (F0 m (pc + 3) ls (.long r :: rest))) : W p l e R s m args below meth c H locs cells slots Q (F0 m pc ls st0) := by
  intro T hT X
  rcases hr T hT X with ⟨v, st₀, t, T', L, h0, X', hL, e1, e2, ⟨⟨r, u, hv, hp, hb⟩, hF⟩, st⟩ | ⟨q, st₀, t, T', L, E, ce, h0, X', hL, e1, e2, ⟨u, hp, hb, hF⟩, hce, hcv, hcl, st⟩
  · cases hv
    obtain ⟨k1, k2, k3⟩ := vx_keep h0 e1 hS hA hf hL hF
    obtain ⟨t2, a1, b1⟩ := kk r u t T'.heap (locs ++ L) e1.symm (by rw [← e2]; exact X'.warmed.alike) hp hb k1 k2 k3 T' rfl X'
    exact ⟨t2, st t2 a1, b1⟩
  · obtain ⟨k1, k2, k3⟩ := vx_keep h0 e1 hS hAX hf hL hF
    obtain ⟨t2, a1, b1⟩ := kx E ce q u t T'.heap (locs ++ L) e1.symm (by rw [← e2]; exact X'.warmed.alike) hp hb k1 k2 k3 (by rw [e1]; exact hce) hcv hcl T' rfl X'
    exact ⟨t2, st.trans a1, b1⟩
theorem vx_callf {S SX : Type} {post : UInt32 → S → Prop} {px : SX → Prop} {B : S → State → Prop} {BX : String → SX → State → Prop} {AX : Nat → Prop} (hr : vx_Run p l e R s m args below meth c H locs cells slots mc ms (F0 m pc ls st0) rest (va_Qf post B A1 a) (vx_X px BX AX) free) (hS : va_S A0 H0 H locs) (hA : ∀ q, q < H.size → A1 q → A0 q) (hf : ∀ q, free q → A0 q) (hAX : ∀ q, q < H.size → AX q → A0 q)
    (kx : ∀ (E : String) (ce : Cell) (q9 : Addr) (u : SX) (t : State) (H1 : Heap) (locs1 : List Loc), t.heap = H1 → s.vm.Alike t.vm → px u → BX E u t → H.size ≤ H1.size → (∀ q : Nat, q < H.size → ¬ AX q → H1[q]? = H[q]?) → va_S A0 H0 H1 locs1 → H1[q9]? = some ce → ce.vm = .none → s.vm.findClass E = some ce.cls → vx_W p l e R s m args below meth c H1 locs1 (cells + mc) (slots + ms) Q (F0 m pc ls rest) q9)
    (kk : ∀ (r : UInt32) (u : S) (t : State) (H1 : Heap) (locs1 : List Loc), t.heap = H1 → s.vm.Alike t.vm → post r u → B u t → H.size ≤ H1.size → (∀ q : Nat, q < H.size → ¬ A1 q → H1[q]? = H[q]?) → va_S A0 H0 H1 locs1 → W p l e R s m args below meth c H1 locs1 (cells + mc) (slots + ms) Q (F0 m (pc + 3) ls (.float r :: rest))) : W p l e R s m args below meth c H locs cells slots Q (F0 m pc ls st0) := by
  intro T hT X
  rcases hr T hT X with ⟨v, st₀, t, T', L, h0, X', hL, e1, e2, ⟨⟨r, u, hv, hp, hb⟩, hF⟩, st⟩ | ⟨q, st₀, t, T', L, E, ce, h0, X', hL, e1, e2, ⟨u, hp, hb, hF⟩, hce, hcv, hcl, st⟩
  · cases hv
    obtain ⟨k1, k2, k3⟩ := vx_keep h0 e1 hS hA hf hL hF
    obtain ⟨t2, a1, b1⟩ := kk r u t T'.heap (locs ++ L) e1.symm (by rw [← e2]; exact X'.warmed.alike) hp hb k1 k2 k3 T' rfl X'
    exact ⟨t2, st t2 a1, b1⟩
  · obtain ⟨k1, k2, k3⟩ := vx_keep h0 e1 hS hAX hf hL hF
    obtain ⟨t2, a1, b1⟩ := kx E ce q u t T'.heap (locs ++ L) e1.symm (by rw [← e2]; exact X'.warmed.alike) hp hb k1 k2 k3 (by rw [e1]; exact hce) hcv hcl T' rfl X'
    exact ⟨t2, st.trans a1, b1⟩
theorem vx_calld {S SX : Type} {post : UInt64 → S → Prop} {px : SX → Prop} {B : S → State → Prop} {BX : String → SX → State → Prop} {AX : Nat → Prop} (hr : vx_Run p l e R s m args below meth c H locs cells slots mc ms (F0 m pc ls st0) rest (va_Qd post B A1 a) (vx_X px BX AX) free) (hS : va_S A0 H0 H locs) (hA : ∀ q, q < H.size → A1 q → A0 q) (hf : ∀ q, free q → A0 q) (hAX : ∀ q, q < H.size → AX q → A0 q)
    (kx : ∀ (E : String) (ce : Cell) (q9 : Addr) (u : SX) (t : State) (H1 : Heap) (locs1 : List Loc), t.heap = H1 → s.vm.Alike t.vm → px u → BX E u t → H.size ≤ H1.size → (∀ q : Nat, q < H.size → ¬ AX q → H1[q]? = H[q]?) → va_S A0 H0 H1 locs1 → H1[q9]? = some ce → ce.vm = .none → s.vm.findClass E = some ce.cls → vx_W p l e R s m args below meth c H1 locs1 (cells + mc) (slots + ms) Q (F0 m pc ls rest) q9)
    (kk : ∀ (r : UInt64) (u : S) (t : State) (H1 : Heap) (locs1 : List Loc), t.heap = H1 → s.vm.Alike t.vm → post r u → B u t → H.size ≤ H1.size → (∀ q : Nat, q < H.size → ¬ A1 q → H1[q]? = H[q]?) → va_S A0 H0 H1 locs1 → W p l e R s m args below meth c H1 locs1 (cells + mc) (slots + ms) Q (F0 m (pc + 3) ls (.double r :: rest))) : W p l e R s m args below meth c H locs cells slots Q (F0 m pc ls st0) := by
  intro T hT X
  rcases hr T hT X with ⟨v, st₀, t, T', L, h0, X', hL, e1, e2, ⟨⟨r, u, hv, hp, hb⟩, hF⟩, st⟩ | ⟨q, st₀, t, T', L, E, ce, h0, X', hL, e1, e2, ⟨u, hp, hb, hF⟩, hce, hcv, hcl, st⟩
  · cases hv
    obtain ⟨k1, k2, k3⟩ := vx_keep h0 e1 hS hA hf hL hF
    obtain ⟨t2, a1, b1⟩ := kk r u t T'.heap (locs ++ L) e1.symm (by rw [← e2]; exact X'.warmed.alike) hp hb k1 k2 k3 T' rfl X'
    exact ⟨t2, st t2 a1, b1⟩
  · obtain ⟨k1, k2, k3⟩ := vx_keep h0 e1 hS hAX hf hL hF
    obtain ⟨t2, a1, b1⟩ := kx E ce q u t T'.heap (locs ++ L) e1.symm (by rw [← e2]; exact X'.warmed.alike) hp hb k1 k2 k3 (by rw [e1]; exact hce) hcv hcl T' rfl X'
    exact ⟨t2, st.trans a1, b1⟩
theorem vx_callv {S SX : Type} {post : S → Prop} {px : SX → Prop} {B : S → State → Prop} {BX : String → SX → State → Prop} {AX : Nat → Prop} (hr : vx_Run p l e R s m args below meth c H locs cells slots mc ms (F0 m pc ls st0) rest (va_Qv post B A1 a) (vx_X px BX AX) free) (hS : va_S A0 H0 H locs) (hA : ∀ q, q < H.size → A1 q → A0 q) (hf : ∀ q, free q → A0 q) (hAX : ∀ q, q < H.size → AX q → A0 q)
    (kx : ∀ (E : String) (ce : Cell) (q9 : Addr) (u : SX) (t : State) (H1 : Heap) (locs1 : List Loc), t.heap = H1 → s.vm.Alike t.vm → px u → BX E u t → H.size ≤ H1.size → (∀ q : Nat, q < H.size → ¬ AX q → H1[q]? = H[q]?) → va_S A0 H0 H1 locs1 → H1[q9]? = some ce → ce.vm = .none → s.vm.findClass E = some ce.cls → vx_W p l e R s m args below meth c H1 locs1 (cells + mc) (slots + ms) Q (F0 m pc ls rest) q9)
    (kk : ∀ (u : S) (t : State) (H1 : Heap) (locs1 : List Loc), t.heap = H1 → s.vm.Alike t.vm → post u → B u t → H.size ≤ H1.size → (∀ q : Nat, q < H.size → ¬ A1 q → H1[q]? = H[q]?) → va_S A0 H0 H1 locs1 → W p l e R s m args below meth c H1 locs1 (cells + mc) (slots + ms) Q (F0 m (pc + 3) ls (rest))) : W p l e R s m args below meth c H locs cells slots Q (F0 m pc ls st0) := by
  intro T hT X
  rcases hr T hT X with ⟨v, st₀, t, T', L, h0, X', hL, e1, e2, ⟨⟨u, hv, hp, hb⟩, hF⟩, st⟩ | ⟨q, st₀, t, T', L, E, ce, h0, X', hL, e1, e2, ⟨u, hp, hb, hF⟩, hce, hcv, hcl, st⟩
  · cases hv
    obtain ⟨k1, k2, k3⟩ := vx_keep h0 e1 hS hA hf hL hF
    obtain ⟨t2, a1, b1⟩ := kk u t T'.heap (locs ++ L) e1.symm (by rw [← e2]; exact X'.warmed.alike) hp hb k1 k2 k3 T' rfl X'
    exact ⟨t2, st t2 a1, b1⟩
  · obtain ⟨k1, k2, k3⟩ := vx_keep h0 e1 hS hAX hf hL hF
    obtain ⟨t2, a1, b1⟩ := kx E ce q u t T'.heap (locs ++ L) e1.symm (by rw [← e2]; exact X'.warmed.alike) hp hb k1 k2 k3 (by rw [e1]; exact hce) hcv hcl T' rfl X'
    exact ⟨t2, st.trans a1, b1⟩
/-- caught by the row x of this method's table; the rows ahead don't take it -/
theorem vx_catch {own name : String} {E : String} {ce : Cell} {q : Addr} (hown : s.vm.findClass own = some m.cls) (pre : List ExceptionTableEntry) (x : ExceptionTableEntry) (suf : List ExceptionTableEntry) (hsplit : c.exceptionTable.toList = pre ++ x :: suf)
    (hpass : ∀ z ∈ pre, covers z pc = false ∨ (z.catchType ≠ 0 ∧ ∃ nm : String, (Cond.classLink own z.catchType nm).before args s = true ∧ va_Nc E nm s)) (hx : covers x pc = true) (h0 : x.catchType ≠ 0)
    (hlink : (Cond.classLink own x.catchType name).before args s = true) (hcast : (Cond.castable E name).before args s = true) (hcell : H[q]? = some ce) (hv : ce.vm = .none) (hcl : s.vm.findClass E = some ce.cls)
    (kk : W p l e R s m args below meth c H locs cells slots Q (F0 m x.handlerPc ls [.ref q])) : vx_W p l e R s m args below meth c H locs cells slots Q (F0 m pc ls rest) q := by
  intro T hT X
  have hpl : e.platform.magicAccessors = ({} : Platform).magicAccessors := by rw [X.admits.platform]
  obtain ⟨c3, c4, hc3, hc4, hasg⟩ := Cond.castable_spec hcast
  cases Option.some.inj (hc3.symm.trans hcl)
  obtain ⟨c5, hc5, hcl5⟩ := Cond.classLink_spec hown hlink e.platform hpl
  cases Option.some.inj (hc4.symm.trans hc5)
  obtain ⟨vm', X', st⟩ := X.thenCaughtThrough q (g := F0 m pc ls rest) rfl (Steps.refl _) (by rw [hT]; exact hcell) (by rw [hv]; rfl) (by obtain ⟨k9, h9, -⟩ := Vm.findClass_spec hcl; exact ⟨k9, h9⟩) pre x suf hsplit
    (fun z hz => by
      rcases hpass z hz with h | ⟨hz0, nm, hl1, hn1⟩
      · exact Or.inl h
      · obtain ⟨c6, hc6, hcl6⟩ := Cond.classLink_spec hown hl1 e.platform hpl
        obtain ⟨a8, b8, h1, h2, h3⟩ := hn1
        cases Option.some.inj (h1.symm.trans hcl)
        cases Option.some.inj (h2.symm.trans hc6)
        exact Or.inr ⟨hz0, _, hcl6, h3⟩) hx (Or.inr ⟨h0, c4, hcl5, hasg⟩)
  obtain ⟨t, a1, b1⟩ := kk (T.setVm vm') hT X'
  exact ⟨t, st.trans a1, b1⟩
end Rows
section Ends
variable {p : Program} {l : Launch} {e : Env} {R : Room} {s : State} {m : MethodId} {args : Array Value} {below : List Frame} {meth : Method} {c : Code} {H : Heap} {locs : List Loc} {cells slots : Nat} {Q : State → Prop}
variable {mc ms : Nat} {free : Addr → Prop} {A0 A1 : Nat → Prop} {H0 : Heap} {a : Array Value} {ls : Array Slot} {st0 rest : List Value}
variable {Qc : Array Value → State → Outcome → State → Prop} {XC : String → State → State → Prop}
/-- what a body that may throw owes at its end -/
def vx_MQ (below : List Frame) (Qc : Array Value → State → Outcome → State → Prop) (XC : String → State → State → Prop) (a : Array Value) (s : State) (mc ms : Nat) (free : Addr → Prop) : State → Prop := fun t =>
  ∃ o, t.status = .running ∧ Ended t below o ∧ vx_Q Qc XC mc ms free a s o t
theorem vx_ret {g : JFrame} {mc ms : Nat} (k : W p l e R s m args below meth c H locs cells slots (MQ below Qc args s mc ms free) g) : W p l e R s m args below meth c H locs cells slots (vx_MQ below Qc XC args s mc ms free) g := by
  intro T hT X
  obtain ⟨t, a1, o, b1, b2, b3, b4⟩ := k T hT X
  exact ⟨t, a1, o, b1, b2, Or.inl ⟨b3, b4⟩⟩
/-- not caught here: it goes on to the caller -/
theorem vx_widen {g : JFrame} {q : Addr} {k n : Nat} (h1 : cells ≤ k) (h2 : slots ≤ n) (kk : vx_W p l e R s m args below meth c H locs k n Q g q) : vx_W p l e R s m args below meth c H locs cells slots Q g q := fun T hT X => kk T hT (stand_widen X h1 h2)
theorem vx_out {pc : Nat} {E : String} {ce : Cell} {q : Addr} {mc ms : Nat} (hout : ∀ x ∈ c.exceptionTable.toList, covers x pc = false) (hlocks : meth.locks = false) (hcell : H[q]? = some ce) (hv : ce.vm = .none) (hcl : s.vm.findClass E = some ce.cls)
    (hx : ∀ t : State, t.heap = H → s.vm.Alike t.vm → XC E s t) (hf : ∀ z ∈ locs, free z.base) (hc : cells ≤ mc) (hs : slots ≤ ms) :
    vx_W p l e R s m args below meth c H locs cells slots (vx_MQ below Qc XC args s mc ms free) (F0 m pc ls rest) q := by
  intro T hT X
  obtain ⟨st1, hrun, hend, hW, hsm⟩ := X.leaveThrown q (g := F0 m pc ls rest) rfl rfl rfl hout hlocks
  have hcell9 : (T.setFrames (.throwing q :: below)).heap[q]? = some ce := by
    show T.heap[q]? = some ce
    rw [hT]; exact hcell
  exact ⟨_, st1, .threw q, hrun, hend, Or.inr ⟨q, rfl, E, ce, locs, hx _ hT hW.alike, hcell9, hv, hcl, hW, hsm.mono hc hs, hf⟩⟩
theorem vx_frame {U : State} {k n : Nat} (h : s.sameButNew ({ U with vm := s.vm } : State) locs k n) : s.heap.size ≤ U.heap.size ∧ ∀ q : Nat, q < s.heap.size → (∀ z ∈ locs, z.base ≠ q) → U.heap[q]? = s.heap[q]? := by
  obtain ⟨-, h2, -, -, -, h6⟩ := h
  refine ⟨h2, fun q hq hz => ?_⟩
  obtain ⟨c9, e1, e2, e3, e4⟩ := h6 q _ (Array.getElem?_eq_getElem hq)
  have hs : c9.slots = (s.heap[q]).slots := Array.ext_getElem? fun i => e4 i fun hm => hz _ hm rfl
  have h9 : c9 = s.heap[q] := by
    rw [hs] at e2
    exact e2
  have e5 : U.heap[q]? = some c9 := e1
  rw [e5, h9, Array.getElem?_eq_getElem hq]
/-- the words of a throw but the four that speak of the heap -/
def vx_no (w : Cond) : Bool := decide (w ≠ .isRef (.static Bundle.tN "UNASSIGNED_STACK" Bundle.steD)) && decide (w ≠ .isRef (.static Bundle.tN "SUPPRESSED_SENTINEL" Bundle.listD)) && decide (w ≠ .laysStatic Bundle.tN "UNASSIGNED_STACK" Bundle.steD) && decide (w ≠ .laysStatic Bundle.tN "SUPPRESSED_SENTINEL" Bundle.listD)
def vx_at0 (own : String) (ic : Nat) (X : String) (names : List String) : List Cond := (Bundle.ownAtoms0 own ic X names).filter vx_no
def vx_atS (own : String) (ic : Nat) (X : String) (names : List String) : List Cond := (Bundle.ownAtoms own ic X names).filter vx_no
/-- a word that the tables alone decide, or a good one -/
def vx_ot (w : Cond) : Bool := w.onTables || goodWord w
theorem vx_ot_at {args a' : Array Value} {s U : State} {w : Cond} (hW : s.WarmedH U.vm) (hvm : s.vm = U.vm) (hg : vx_ot w = true) (h : w.before args s = true) : w.before a' U = true := by
  simp only [vx_ot, Bool.or_eq_true] at hg
  rcases hg with hg | hg
  · exact va_tabs hg hvm h
  · exact word_at hW (good_of_word hg) h
/-- a list's words: the good ones out of the method's own list, the others by premises of their own -/
theorem vx_hat {args : Array Value} {s : State} {L B : List Cond} (h1 : ∀ w ∈ L.filter goodWord, w.before args s = true) (h2 : ∀ w ∈ L.filter (fun w => !goodWord w), w ∈ B) (h3 : ∀ w ∈ B, w.before args s = true) : ∀ w ∈ L, w.before args s = true := by
  intro w hw
  by_cases g : goodWord w = true
  · exact h1 w (List.mem_filter.mpr ⟨hw, g⟩)
  · refine h3 w (h2 w (List.mem_filter.mpr ⟨hw, ?_⟩))
    show (!goodWord w) = true
    cases hgw : goodWord w
    · rfl
    · exact absurd hgw g
theorem vx_c {args : Array Value} {s : State} {w : Cond} {B : List Cond} (h : w.before args s = true) (t : ∀ w ∈ B, w.before args s = true) : ∀ w' ∈ w :: B, w'.before args s = true := fun w' h' => (List.mem_cons.mp h').elim (fun e => by rw [e]; exact h) (t w')
theorem vx_n {args : Array Value} {s : State} : ∀ w ∈ ([] : List Cond), w.before args s = true := fun _ h => nomatch h
theorem vx_own {args : Array Value} {s : State} {L : List Cond} (h1 : ∀ w ∈ L.filter vx_no, w.before args s = true)
    (hU : (Cond.isRef (.static Bundle.tN "UNASSIGNED_STACK" Bundle.steD)).before args s = true) (hN : (Cond.isRef (.static Bundle.tN "SUPPRESSED_SENTINEL" Bundle.listD)).before args s = true)
    (lU : (Cond.laysStatic Bundle.tN "UNASSIGNED_STACK" Bundle.steD).before args s = true) (lN : (Cond.laysStatic Bundle.tN "SUPPRESSED_SENTINEL" Bundle.listD).before args s = true) : ∀ w ∈ L, w.before args s = true := by
  intro w hw
  by_cases e1 : w = .isRef (.static Bundle.tN "UNASSIGNED_STACK" Bundle.steD)
  · rw [e1]; exact hU
  · by_cases e2 : w = .isRef (.static Bundle.tN "SUPPRESSED_SENTINEL" Bundle.listD)
    · rw [e2]; exact hN
    · by_cases e3 : w = .laysStatic Bundle.tN "UNASSIGNED_STACK" Bundle.steD
      · rw [e3]; exact lU
      · by_cases e4 : w = .laysStatic Bundle.tN "SUPPRESSED_SENTINEL" Bundle.listD
        · rw [e4]; exact lN
        · exact h1 w (List.mem_filter.mpr ⟨hw, by unfold vx_no; rw [decide_eq_true e1, decide_eq_true e2, decide_eq_true e3, decide_eq_true e4]; rfl⟩)
/-- where a static field lies, its class's statics cell in H -/
def vx_L (C n d : String) (A : Nat → Prop) (U : State) (H : Heap) : Prop := ∃ (c : ClassId) (k : Class) (i : Nat) (f : Field) (a : Nat) (cell : Cell), U.vm.findClass C = some c ∧ U.fieldFound? C n d = some (c, k, i, f) ∧ f.isStatic = true ∧ k.statics = some a ∧ H[a]? = some cell ∧ cell.vm.isStatics = true ∧ cell.cls = c ∧ f.slot < cell.slots.size ∧ k.staticTypes[f.slot]? = some f.type ∧ ¬ A a
theorem vx_L.moved {C n d : String} {A : Nat → Prop} {u U : State} {H : Heap} (hvm : u.vm.Alike U.vm) (h : vx_L C n d A u H) : vx_L C n d A U H := by
  obtain ⟨c, k, i, f, a, cell, h1, h2, h3, h4, h5, h6, h7, h8, h9, h10⟩ := h
  obtain ⟨k', hi', he⟩ := State.fieldFound?_setVm hvm h2
  exact ⟨c, k', i, f, a, cell, by rw [hvm.findClass]; exact h1, hi', h3, by rw [he]; exact h4, h5, h6, h7, h8, by rw [he]; exact h9, h10⟩
theorem vx_L.kept {C n d : String} {A : Nat → Prop} {U : State} {H H1 : Heap} (h : vx_L C n d A U H) (hq : ∀ a : Nat, a < H.size → ¬ A a → H1[a]? = H[a]?) : vx_L C n d A U H1 := by
  obtain ⟨c, k, i, f, a, cell, h1, h2, h3, h4, h5, h6, h7, h8, h9, h10⟩ := h
  exact ⟨c, k, i, f, a, cell, h1, h2, h3, h4, by rw [hq a (Array.getElem?_eq_some_iff.mp h5).1 h10]; exact h5, h6, h7, h8, h9, h10⟩
theorem vx_L.narrow {C n d : String} {A B : Nat → Prop} {U : State} {H : Heap} (h : vx_L C n d A U H) (hAB : ∀ q, B q → A q) : vx_L C n d B U H := by
  obtain ⟨c, k, i, f, a, cell, h1, h2, h3, h4, h5, h6, h7, h8, h9, h10⟩ := h
  exact ⟨c, k, i, f, a, cell, h1, h2, h3, h4, h5, h6, h7, h8, h9, fun z => h10 (hAB _ z)⟩
theorem vx_L.word {C n d : String} {A : Nat → Prop} {s : State} {args : Array Value} (h : vx_L C n d A s s.heap) : (Cond.laysStatic C n d).before args s = true := by
  obtain ⟨c, k, i, f, a, cell, h1, h2, h3, h4, h5, h6, h7, h8, h9, -⟩ := h
  show (Cond.laysStatic C n d).holds args s none s [] = true
  exact Cond.laysStatic_of h1 h2 h3 h4 h5 h6 h7 h8 h9
/-- .. and what it holds: null or some reference -/
def vx_Zq (C n d : String) (A : Nat → Prop) (U : State) (H : Heap) : Prop := va_Zq C n d A U H ∧ vx_L C n d A U H
theorem vx_Zq.moved {C n d : String} {A : Nat → Prop} {u U : State} {H : Heap} (hvm : u.vm.Alike U.vm) (h : vx_Zq C n d A u H) : vx_Zq C n d A U H := ⟨va_Zq.moved hvm h.1, vx_L.moved hvm h.2⟩
theorem vx_Zq.kept {C n d : String} {A : Nat → Prop} {U : State} {H H1 : Heap} (h : vx_Zq C n d A U H) (hq : ∀ a : Nat, a < H.size → ¬ A a → H1[a]? = H[a]?) : vx_Zq C n d A U H1 := ⟨va_Zq.kept h.1 hq, vx_L.kept h.2 hq⟩
theorem vx_Zq.narrow {C n d : String} {A B : Nat → Prop} {U : State} {H : Heap} (h : vx_Zq C n d A U H) (hAB : ∀ q, B q → A q) : vx_Zq C n d B U H := ⟨va_Zq.narrow h.1 hAB, vx_L.narrow h.2 hAB⟩
theorem vx_Zqof {args : Array Value} {s : State} {C n d : String} {A : Nat → Prop} (hl : (Cond.laysStatic C n d).before args s = true) (hini : (Cond.initialized C).before args s = true) (h : (Cond.isRef (.static C n d)).before args s = true) (hA : ∀ a : Nat, a < s.heap.size → ¬ A a) : vx_Zq C n d A s s.heap := by
  refine ⟨va_Zqof hl hini h hA, ?_⟩
  obtain ⟨c, k, i, f, a, cell, h1, h2, h3, h4, h5, h6, h7, h8, h9⟩ := Cond.laysStatic_spec hl
  exact ⟨c, k, i, f, a, cell, h1, h2, h3, h4, h5, h6, h7, h8, h9, hA a (Array.getElem?_eq_some_iff.mp h5).1⟩
theorem vx_isRef {C n d : String} {v : Value} {A : Nat → Prop} {s : State} {args : Array Value} (h : va_Z C n d v A s s.heap) (hv : v.isRef = true) : (Cond.isRef (.static C n d)).before args s = true := by
  obtain ⟨cf, kf, fi, f, a, cell, h1, h2, h3, h4, h5, h6, h7, -⟩ := h
  have he : (Term.static C n d).eval args s none [] s = some v := by
    simp [Term.eval, State.fieldNamed?, h1, h2, h4, h5, h6, h7]
  simp only [Cond.before, Cond.holds, Cond.value, he]
  cases v <;> simp_all [Value.isRef]
theorem vx_isRefq {C n d : String} {A : Nat → Prop} {s : State} {args : Array Value} (h : va_Zq C n d A s s.heap) : (Cond.isRef (.static C n d)).before args s = true := by
  rcases h with h | ⟨t, h⟩
  · exact vx_isRef h rfl
  · exact vx_isRef h rfl
/-- the same frame, seen from here: as if the method were called anew in this heap -/
theorem vx_rebase {T : State} (X : Stand p l e R s m args below meth c T locs cells slots) {R' : Room} (hf : R'.frames ≤ R.frames) (hl : R'.locals ≤ R.locals) (hc : cells + R'.cells ≤ R.cells) (hs : slots + R'.slots ≤ R.slots) :
    Stand p l e R' ((T.setVm s.vm).setFrames (.invoking m args :: below)) m args below meth c T [] 0 0 := by
  have htop : (T.setVm s.vm).topJava?.isSome := X.here.top
  have hF : ((T.setVm s.vm).setFrames (.invoking m args :: below)).frames = .invoking m args :: below := State.frames_setFrames _ (State.cur_lt_of_top htop)
  obtain ⟨g₀, hg0⟩ := Option.isSome_iff_exists.mp htop
  obtain ⟨r, hr⟩ := State.topJava?_eq_some.mp hg0
  have hl9 : e.platform.stackLimits (T.setVm s.vm).me = e.platform.stackLimits s.me := X.limits
  have hb9 : (T.setVm s.vm).me.stackBytes = s.me.stackBytes := X.bytes
  refine ⟨X.admits, X.cas, X.clock, hF, ?_, X.hears, X.method, X.code, X.here, X.tail, X.warmed, ?_, ?_, ?_⟩
  · have h := X.room
    have hU : ((T.setVm s.vm).setFrames (.invoking m args :: below)).localsInUse = s.localsInUse := by
      rw [State.localsInUse_invoking hF (meth := meth) (c := c) X.method X.code, State.localsInUse_invoking X.frames X.method X.code]
    simp only [State.hasRoom, Bool.and_eq_true, decide_eq_true_eq] at h ⊢
    obtain ⟨⟨⟨⟨h1, h2, h3, h4, h5, h6⟩, h7⟩, h8⟩, h9⟩ := h
    rw [X.frames, List.length_cons] at h2 h3
    have q1 := X.heapSize
    have q2 := X.used
    simp only [hF, hU, List.length_cons, State.stackLimits_setFrames, State.stackBytes_setFrames, hl9, hb9]
    refine ⟨⟨⟨⟨by omega, by omega, by omega, by omega, by omega, h6⟩, ?_⟩, ?_⟩, X.book⟩
    · show T.heap.size + R'.cells ≤ e.platform.maxCells
      omega
    · show T.slotsUsed + R'.slots ≤ e.platform.maxSlots
      omega
  · rw [State.stackLimits_setFrames]; rfl
  · rw [State.stackBytes_setFrames]; rfl
  · refine ⟨?_, Nat.le_refl _, Nat.le_refl _, ?_, ?_, fun a c9 h9 => ⟨c9, h9, rfl, rfl, fun _ _ => rfl⟩⟩
    · obtain ⟨t, ht, -⟩ := State.frames_cons hr
      show T.setVm s.vm = { ((T.setVm s.vm).setFrames (.invoking m args :: below)).setFrames (T.setVm s.vm).frames with heap := T.heap, slotsUsed := T.slotsUsed }
      rw [State.setFrames_setFrames, State.setFrames_self ht]
      rfl
    · show T.slotsUsed = T.slotsUsed + ((T.heap.toList.drop T.heap.size).map (·.slots.size)).sum
      rw [List.drop_eq_nil_of_le (Nat.le_of_eq Array.length_toList)]
      rfl
    · show ((T.heap.toList.drop T.heap.size).map (·.slots.size)).sum ≤ 0
      rw [List.drop_eq_nil_of_le (Nat.le_of_eq Array.length_toList)]
      exact Nat.le_refl _
/-- 'throw new E()': new; dup; invokespecial; athrow -/
theorem vx_throw0 {cc : ByteArray} {pc : Nat} (hexec : p.tables.exec = Jvm.exec) (hb : c.code = cc) (hl : l.stackTraces = false) {own cls : String} {names : List String} {ik ic mc ms : Nat} {A : Nat → Prop}
    (hown : s.vm.findClass own = some m.cls) (hcls : Bundle.fit cls = true) (hnames : ∀ n ∈ names, Bundle.fit n = true)
    (hk : (Cond.classLink own ik cls).before args s = true) (hini : (Cond.initialized cls).before args s = true) (hat : ∀ w ∈ vx_at0 own ic cls names, w.before args s = true)
    (hgood : ∀ w ∈ Cond.classLink own ik cls :: Cond.initialized cls :: vx_at0 own ic cls names, vx_ot w = true)
    (hU : vx_Zq Bundle.tN "UNASSIGNED_STACK" Bundle.steD A s s.heap) (hN : vx_Zq Bundle.tN "SUPPRESSED_SENTINEL" Bundle.listD A s s.heap) (hS : va_S A s.heap H locs) (hsize : ls.size = c.maxLocals)
    (d0 : decode cc pc = .ok (.new ik, 3)) (d3 : decode cc (pc + 3) = .ok (.dup, 1)) (d4 : decode cc (pc + 4) = .ok (.invokespecial ic, 3)) (d7 : decode cc (pc + 7) = .ok (.athrow, 1))
    (hout : ∀ x ∈ c.exceptionTable.toList, covers x (pc + 7) = false)
    (hRframes : names.length + 3 < R.frames) (hRlocals : (rest.map fun v => v.category).sum + (13 * (names.length + 1) + 42) ≤ R.locals) (hRcells : cells + 1 ≤ R.cells) (hRslots : slots + 6 ≤ R.slots) (hlocks : meth.locks = false)
    (hx : ∀ t : State, s.vm.Alike t.vm → H.size ≤ t.heap.size → (∀ q : Nat, q < H.size → t.heap[q]? = H[q]?) → XC cls s t)
    (hf : ∀ z ∈ locs, free z.base) (hc : cells + 1 ≤ mc) (hs : slots + 6 ≤ ms) :
    W p l e R s m args below meth c H locs cells slots (vx_MQ below Qc XC args s mc ms free) (F0 m pc ls rest) := by
  intro T hT X
  have htr : e.platform.stackTraces = false := (show e.platform.stackTraces = l.stackTraces by rw [X.admits.platform]).trans hl
  have Y := vx_rebase X (R' := { frames := R.frames, locals := R.locals, cells := 1, slots := 6 }) (Nat.le_refl _) (Nat.le_refl _) hRcells hRslots
  obtain ⟨s', hA⟩ : ∃ z, z = (T.setVm s.vm).setFrames (.invoking m args :: below) := ⟨_, rfl⟩
  rw [← hA] at Y
  have hvm : s'.vm = s.vm := by rw [hA]; rfl
  have hhp : s'.heap = H := by rw [hA]; exact hT
  have hW0 : s.WarmedH s'.vm := by rw [hvm]; exact State.WarmedH.refl s
  have hat' : ∀ w ∈ vx_at0 own ic cls names, w.before args s' = true := fun w hw => vx_ot_at hW0 hvm.symm (hgood w (List.mem_cons_of_mem _ (List.mem_cons_of_mem _ hw))) (hat w hw)
  have hk' : (Cond.classLink own ik cls).before args s' = true := vx_ot_at hW0 hvm.symm (hgood _ List.mem_cons_self) hk
  have hini' : (Cond.initialized cls).before args s' = true := vx_ot_at hW0 hvm.symm (hgood _ (List.mem_cons_of_mem _ List.mem_cons_self)) hini
  have hU' : vx_Zq Bundle.tN "UNASSIGNED_STACK" Bundle.steD A s' s'.heap := by rw [hhp]; exact vx_Zq.moved hW0.alike (hU.kept hS.2.1)
  have hN' : vx_Zq Bundle.tN "SUPPRESSED_SENTINEL" Bundle.listD A s' s'.heap := by rw [hhp]; exact vx_Zq.moved hW0.alike (hN.kept hS.2.1)
  have h : ∀ w ∈ Bundle.ownAtoms0 own ic cls names, w.before args s' = true := vx_own hat' (vx_isRefq hU'.1) (vx_isRefq hN'.1) hU'.2.word hN'.2.word
  have hown' : s'.vm.findClass own = some m.cls := by rw [hvm]; exact hown
  have hins : (Cond.instantiable cls 6).before args s' = true := h _ (by simp [Bundle.ownAtoms0])
  obtain ⟨vm₁, cX, kX, hfX, hkX, -, -, X₁, st1⟩ := Y.newCold hexec (own := own) (C := cls) (index := ik) (n := 6) hown' hk' hins hini'
    (g := F0 m pc ls rest) rfl (by rw [hb]; exact d0) (Nat.le_refl _) (Nat.le_refl _)
  generalize hT1 : (T.setVm vm₁).pushCell { cls := cX, slots := kX.instanceTypes.map defaultValue, vm := .none } = T1 at X₁ st1
  have hcat : (Value.ref T.heap.size).category = 1 := rfl
  have hcellA : T1.heap[T.heap.size]? = some (freshCell cX kX) := by rw [← hT1]; exact State.heap_pushCell_size _ _
  have d3' : decode c.code (pc + 3) = .ok (.dup, 1) := by rw [hb]; exact d3
  obtain ⟨U, hsteps, hrun, hend, hW, hsame, ce, hce, hO⟩ := X₁.ctorThrow0 hexec htr (own := own) (cls := cls) (names := names) (ic := ic) hown' hcls hnames h (fun x hx => nomatch hx) hfX hkX hcellA (by rw [hhp, hT]; exact Nat.le_refl _)
    (g := { method := m, pc := pc + 4, locals := ls, stack := .ref T.heap.size :: .ref T.heap.size :: rest, locked := none }) rfl hsize rfl rfl (rest := rest) rfl
    (by rw [hb]; exact d4) (by rw [hb]; exact d7) hout hRframes (by simp only [List.map_cons, List.sum_cons, hcat]; omega) hlocks
  obtain ⟨f1, f2⟩ := vx_frame hsame
  rw [hhp] at f1 f2
  have hWs : s.WarmedH U.vm := State.WarmedH.trans hW0 hW
  have hcl : s.vm.findClass cls = some ce.cls := by
    have h9 := hO.cls
    rw [hvm] at h9
    exact h9
  have hall : s.sameButNew ({ U with vm := s.vm } : State) locs mc ms := by
    subst hA
    obtain ⟨e1, e2⟩ := hsame
    rw [State.setFrames_setFrames] at e1
    have h2 : (T.setVm s.vm).sameButNew ({ U with vm := s.vm } : State) [] (0 + 1) (0 + 6) := ⟨e1, e2⟩
    have h3 := X.same.trans h2
    rw [List.append_nil] at h3
    exact h3.mono hc hs
  refine ⟨U, ?_, .threw T.heap.size, hrun, hend, Or.inr ⟨T.heap.size, rfl, cls, ce, locs, hx U hWs.alike f1 (fun q hq => f2 q hq (fun z hz => nomatch hz)), hce, hO.vm, hcl, hWs, hall, hf⟩⟩
  refine st1 _ ?_
  show Steps p.tables e below (T1.setTop { method := m, pc := pc + 3, locals := ls, stack := .ref T.heap.size :: rest, locked := none }) _
  jvm_step X₁.here [X₁.here.top, hexec, d3', Value.category]
  exact hsteps
/-- 'throw new E("text")': new; dup; ldc; invokespecial; athrow -/
theorem vx_throwS {cc : ByteArray} {pc : Nat} (hexec : p.tables.exec = Jvm.exec) (hb : c.code = cc) (hl : l.stackTraces = false) {own cls text : String} {names : List String} {ik is ic mc ms sa : Nat} {A : Nat → Prop}
    (hown : s.vm.findClass own = some m.cls) (hcls : Bundle.fit cls = true) (hnames : ∀ n ∈ names, Bundle.fit n = true)
    (hk : (Cond.classLink own ik cls).before args s = true) (hini : (Cond.initialized cls).before args s = true) (hstr : vk_R own is text sa s) (hat : ∀ w ∈ vx_atS own ic cls names, w.before args s = true)
    (hgood : ∀ w ∈ Cond.classLink own ik cls :: Cond.initialized cls :: vx_atS own ic cls names, vx_ot w = true)
    (hU : vx_Zq Bundle.tN "UNASSIGNED_STACK" Bundle.steD A s s.heap) (hN : vx_Zq Bundle.tN "SUPPRESSED_SENTINEL" Bundle.listD A s s.heap) (hS : va_S A s.heap H locs) (hsize : ls.size = c.maxLocals)
    (d0 : decode cc pc = .ok (.new ik, 3)) (d3 : decode cc (pc + 3) = .ok (.dup, 1)) (d4 : decode cc (pc + 4) = .ok (.ldc is, 2)) (d6 : decode cc (pc + 6) = .ok (.invokespecial ic, 3)) (d9 : decode cc (pc + 9) = .ok (.athrow, 1))
    (hout : ∀ x ∈ c.exceptionTable.toList, covers x (pc + 9) = false)
    (hRframes : names.length + 3 < R.frames) (hRlocals : (rest.map fun v => v.category).sum + (13 * (names.length + 1) + 43) ≤ R.locals) (hRcells : cells + 1 ≤ R.cells) (hRslots : slots + 6 ≤ R.slots) (hlocks : meth.locks = false)
    (hx : ∀ t : State, s.vm.Alike t.vm → H.size ≤ t.heap.size → (∀ q : Nat, q < H.size → t.heap[q]? = H[q]?) → XC cls s t)
    (hf : ∀ z ∈ locs, free z.base) (hc : cells + 1 ≤ mc) (hs : slots + 6 ≤ ms) :
    W p l e R s m args below meth c H locs cells slots (vx_MQ below Qc XC args s mc ms free) (F0 m pc ls rest) := by
  intro T hT X
  have htr : e.platform.stackTraces = false := (show e.platform.stackTraces = l.stackTraces by rw [X.admits.platform]).trans hl
  have Y := vx_rebase X (R' := { frames := R.frames, locals := R.locals, cells := 1, slots := 6 }) (Nat.le_refl _) (Nat.le_refl _) hRcells hRslots
  obtain ⟨s', hA⟩ : ∃ z, z = (T.setVm s.vm).setFrames (.invoking m args :: below) := ⟨_, rfl⟩
  rw [← hA] at Y
  have hvm : s'.vm = s.vm := by rw [hA]; rfl
  have hhp : s'.heap = H := by rw [hA]; exact hT
  have hW0 : s.WarmedH s'.vm := by rw [hvm]; exact State.WarmedH.refl s
  have hat' : ∀ w ∈ vx_atS own ic cls names, w.before args s' = true := fun w hw => vx_ot_at hW0 hvm.symm (hgood w (List.mem_cons_of_mem _ (List.mem_cons_of_mem _ hw))) (hat w hw)
  have hk' : (Cond.classLink own ik cls).before args s' = true := vx_ot_at hW0 hvm.symm (hgood _ List.mem_cons_self) hk
  have hini' : (Cond.initialized cls).before args s' = true := vx_ot_at hW0 hvm.symm (hgood _ (List.mem_cons_of_mem _ List.mem_cons_self)) hini
  have hU' : vx_Zq Bundle.tN "UNASSIGNED_STACK" Bundle.steD A s' s'.heap := by rw [hhp]; exact vx_Zq.moved hW0.alike (hU.kept hS.2.1)
  have hN' : vx_Zq Bundle.tN "SUPPRESSED_SENTINEL" Bundle.listD A s' s'.heap := by rw [hhp]; exact vx_Zq.moved hW0.alike (hN.kept hS.2.1)
  have h : ∀ w ∈ Bundle.ownAtoms own ic cls names, w.before args s' = true := vx_own hat' (vx_isRefq hU'.1) (vx_isRefq hN'.1) hU'.2.word hN'.2.word
  have hown' : s'.vm.findClass own = some m.cls := by rw [hvm]; exact hown
  have hins : (Cond.instantiable cls 6).before args s' = true := h _ (by simp [Bundle.ownAtoms])
  obtain ⟨vm₁, cX, kX, hfX, hkX, -, -, X₁, st1⟩ := Y.newCold hexec (own := own) (C := cls) (index := ik) (n := 6) hown' hk' hins hini'
    (g := F0 m pc ls rest) rfl (by rw [hb]; exact d0) (Nat.le_refl _) (Nat.le_refl _)
  generalize hT1 : (T.setVm vm₁).pushCell { cls := cX, slots := kX.instanceTypes.map defaultValue, vm := .none } = T1 at X₁ st1
  have hcat : (Value.ref T.heap.size).category = 1 := rfl
  have hcellA : T1.heap[T.heap.size]? = some (freshCell cX kX) := by rw [← hT1]; exact State.heap_pushCell_size _ _
  have d3' : decode c.code (pc + 3) = .ok (.dup, 1) := by rw [hb]; exact d3
  have d4' : decode c.code (pc + 4) = .ok (.ldc is, 2) := by rw [hb]; exact d4
  have hstr' : vk_R own is text sa s' := vk_R.warm hW0 hstr
  obtain ⟨U, hsteps, hrun, hend, hW, hsame, ce, hce, hO⟩ := X₁.ctorThrowS hexec htr (own := own) (cls := cls) (names := names) (ic := ic) hown' hcls hnames h (fun x hx => nomatch hx) hfX hkX hcellA (by rw [hhp, hT]; exact Nat.le_refl _) (msg := .ref sa) rfl
    (g := { method := m, pc := pc + 6, locals := ls, stack := .ref sa :: .ref T.heap.size :: .ref T.heap.size :: rest, locked := none }) rfl hsize rfl rfl (rest := rest) rfl
    (by rw [hb]; exact d6) (by rw [hb]; exact d9) hout hRframes (by simp only [List.map_cons, List.sum_cons, hcat]; omega) hlocks
  obtain ⟨f1, f2⟩ := vx_frame hsame
  rw [hhp] at f1 f2
  have hWs : s.WarmedH U.vm := State.WarmedH.trans hW0 hW
  have hcl : s.vm.findClass cls = some ce.cls := by
    have h9 := hO.cls
    rw [hvm] at h9
    exact h9
  have hall : s.sameButNew ({ U with vm := s.vm } : State) locs mc ms := by
    subst hA
    obtain ⟨e1, e2⟩ := hsame
    rw [State.setFrames_setFrames] at e1
    have h2 : (T.setVm s.vm).sameButNew ({ U with vm := s.vm } : State) [] (0 + 1) (0 + 6) := ⟨e1, e2⟩
    have h3 := X.same.trans h2
    rw [List.append_nil] at h3
    exact h3.mono hc hs
  refine ⟨U, ?_, .threw T.heap.size, hrun, hend, Or.inr ⟨T.heap.size, rfl, cls, ce, locs, hx U hWs.alike f1 (fun q hq => f2 q hq (fun z hz => nomatch hz)), hce, hO.vm, hcl, hWs, hall, hf⟩⟩
  refine st1 _ ?_
  show Steps p.tables e below (T1.setTop { method := m, pc := pc + 3, locals := ls, stack := .ref T.heap.size :: rest, locked := none }) _
  jvm_step X₁.here [X₁.here.top, hexec, d3', Value.category]
  exact X₁.ldcString hexec (own := own) (text := text) (index := is) (a := sa) hown' hstr'.1 hstr'.2
    (g := { method := m, pc := pc + 4, locals := ls, stack := .ref T.heap.size :: .ref T.heap.size :: rest, locked := none }) rfl d4' _ hsteps
/-- 'throw new E("text")', the text by a wide index -/
theorem vx_throwSW {cc : ByteArray} {pc : Nat} (hexec : p.tables.exec = Jvm.exec) (hb : c.code = cc) (hl : l.stackTraces = false) {own cls text : String} {names : List String} {ik is ic mc ms sa : Nat} {A : Nat → Prop}
    (hown : s.vm.findClass own = some m.cls) (hcls : Bundle.fit cls = true) (hnames : ∀ n ∈ names, Bundle.fit n = true)
    (hk : (Cond.classLink own ik cls).before args s = true) (hini : (Cond.initialized cls).before args s = true) (hstr : vk_R own is text sa s) (hat : ∀ w ∈ vx_atS own ic cls names, w.before args s = true)
    (hgood : ∀ w ∈ Cond.classLink own ik cls :: Cond.initialized cls :: vx_atS own ic cls names, vx_ot w = true)
    (hU : vx_Zq Bundle.tN "UNASSIGNED_STACK" Bundle.steD A s s.heap) (hN : vx_Zq Bundle.tN "SUPPRESSED_SENTINEL" Bundle.listD A s s.heap) (hS : va_S A s.heap H locs) (hsize : ls.size = c.maxLocals)
    (d0 : decode cc pc = .ok (.new ik, 3)) (d3 : decode cc (pc + 3) = .ok (.dup, 1)) (d4 : decode cc (pc + 4) = .ok (.ldc_w is, 3)) (d7 : decode cc (pc + 7) = .ok (.invokespecial ic, 3)) (d10 : decode cc (pc + 10) = .ok (.athrow, 1))
    (hout : ∀ x ∈ c.exceptionTable.toList, covers x (pc + 10) = false)
    (hRframes : names.length + 3 < R.frames) (hRlocals : (rest.map fun v => v.category).sum + (13 * (names.length + 1) + 43) ≤ R.locals) (hRcells : cells + 1 ≤ R.cells) (hRslots : slots + 6 ≤ R.slots) (hlocks : meth.locks = false)
    (hx : ∀ t : State, s.vm.Alike t.vm → H.size ≤ t.heap.size → (∀ q : Nat, q < H.size → t.heap[q]? = H[q]?) → XC cls s t)
    (hf : ∀ z ∈ locs, free z.base) (hc : cells + 1 ≤ mc) (hs : slots + 6 ≤ ms) :
    W p l e R s m args below meth c H locs cells slots (vx_MQ below Qc XC args s mc ms free) (F0 m pc ls rest) := by
  intro T hT X
  have htr : e.platform.stackTraces = false := (show e.platform.stackTraces = l.stackTraces by rw [X.admits.platform]).trans hl
  have Y := vx_rebase X (R' := { frames := R.frames, locals := R.locals, cells := 1, slots := 6 }) (Nat.le_refl _) (Nat.le_refl _) hRcells hRslots
  obtain ⟨s', hA⟩ : ∃ z, z = (T.setVm s.vm).setFrames (.invoking m args :: below) := ⟨_, rfl⟩
  rw [← hA] at Y
  have hvm : s'.vm = s.vm := by rw [hA]; rfl
  have hhp : s'.heap = H := by rw [hA]; exact hT
  have hW0 : s.WarmedH s'.vm := by rw [hvm]; exact State.WarmedH.refl s
  have hat' : ∀ w ∈ vx_atS own ic cls names, w.before args s' = true := fun w hw => vx_ot_at hW0 hvm.symm (hgood w (List.mem_cons_of_mem _ (List.mem_cons_of_mem _ hw))) (hat w hw)
  have hk' : (Cond.classLink own ik cls).before args s' = true := vx_ot_at hW0 hvm.symm (hgood _ List.mem_cons_self) hk
  have hini' : (Cond.initialized cls).before args s' = true := vx_ot_at hW0 hvm.symm (hgood _ (List.mem_cons_of_mem _ List.mem_cons_self)) hini
  have hU' : vx_Zq Bundle.tN "UNASSIGNED_STACK" Bundle.steD A s' s'.heap := by rw [hhp]; exact vx_Zq.moved hW0.alike (hU.kept hS.2.1)
  have hN' : vx_Zq Bundle.tN "SUPPRESSED_SENTINEL" Bundle.listD A s' s'.heap := by rw [hhp]; exact vx_Zq.moved hW0.alike (hN.kept hS.2.1)
  have h : ∀ w ∈ Bundle.ownAtoms own ic cls names, w.before args s' = true := vx_own hat' (vx_isRefq hU'.1) (vx_isRefq hN'.1) hU'.2.word hN'.2.word
  have hown' : s'.vm.findClass own = some m.cls := by rw [hvm]; exact hown
  have hins : (Cond.instantiable cls 6).before args s' = true := h _ (by simp [Bundle.ownAtoms])
  obtain ⟨vm₁, cX, kX, hfX, hkX, -, -, X₁, st1⟩ := Y.newCold hexec (own := own) (C := cls) (index := ik) (n := 6) hown' hk' hins hini'
    (g := F0 m pc ls rest) rfl (by rw [hb]; exact d0) (Nat.le_refl _) (Nat.le_refl _)
  generalize hT1 : (T.setVm vm₁).pushCell { cls := cX, slots := kX.instanceTypes.map defaultValue, vm := .none } = T1 at X₁ st1
  have hcat : (Value.ref T.heap.size).category = 1 := rfl
  have hcellA : T1.heap[T.heap.size]? = some (freshCell cX kX) := by rw [← hT1]; exact State.heap_pushCell_size _ _
  have d3' : decode c.code (pc + 3) = .ok (.dup, 1) := by rw [hb]; exact d3
  have d4' : decode c.code (pc + 4) = .ok (.ldc_w is, 3) := by rw [hb]; exact d4
  have hstr' : vk_R own is text sa s' := vk_R.warm hW0 hstr
  obtain ⟨U, hsteps, hrun, hend, hW, hsame, ce, hce, hO⟩ := X₁.ctorThrowS hexec htr (own := own) (cls := cls) (names := names) (ic := ic) hown' hcls hnames h (fun x hx => nomatch hx) hfX hkX hcellA (by rw [hhp, hT]; exact Nat.le_refl _) (msg := .ref sa) rfl
    (g := { method := m, pc := pc + 7, locals := ls, stack := .ref sa :: .ref T.heap.size :: .ref T.heap.size :: rest, locked := none }) rfl hsize rfl rfl (rest := rest) rfl
    (by rw [hb]; exact d7) (by rw [hb]; exact d10) hout hRframes (by simp only [List.map_cons, List.sum_cons, hcat]; omega) hlocks
  obtain ⟨f1, f2⟩ := vx_frame hsame
  rw [hhp] at f1 f2
  have hWs : s.WarmedH U.vm := State.WarmedH.trans hW0 hW
  have hcl : s.vm.findClass cls = some ce.cls := by
    have h9 := hO.cls
    rw [hvm] at h9
    exact h9
  have hall : s.sameButNew ({ U with vm := s.vm } : State) locs mc ms := by
    subst hA
    obtain ⟨e1, e2⟩ := hsame
    rw [State.setFrames_setFrames] at e1
    have h2 : (T.setVm s.vm).sameButNew ({ U with vm := s.vm } : State) [] (0 + 1) (0 + 6) := ⟨e1, e2⟩
    have h3 := X.same.trans h2
    rw [List.append_nil] at h3
    exact h3.mono hc hs
  refine ⟨U, ?_, .threw T.heap.size, hrun, hend, Or.inr ⟨T.heap.size, rfl, cls, ce, locs, hx U hWs.alike f1 (fun q hq => f2 q hq (fun z hz => nomatch hz)), hce, hO.vm, hcl, hWs, hall, hf⟩⟩
  refine st1 _ ?_
  show Steps p.tables e below (T1.setTop { method := m, pc := pc + 3, locals := ls, stack := .ref T.heap.size :: rest, locked := none }) _
  jvm_step X₁.here [X₁.here.top, hexec, d3', Value.category]
  exact X₁.ldcStringW hexec (own := own) (text := text) (index := is) (a := sa) hown' hstr'.1 hstr'.2
    (g := { method := m, pc := pc + 4, locals := ls, stack := .ref T.heap.size :: .ref T.heap.size :: rest, locked := none }) rfl d4' _ hsteps
end Ends
section Bodies
variable {l : Launch}
theorem vx_ofW {y : MethodName} {ws ws' : List Cond} {rm : Room} {Pc : Array Value → State → Prop} {Qc : Array Value → State → Outcome → State → Prop} {XC : String → State → State → Prop} {mc ms : Nat} {free : Addr → Prop} {cc : ByteArray} {maxL : Nat} {ret : Option FieldType}
    (hy : plainName y.cls = true) (hw : ws = Cond.code y cc maxL ret :: ws')
    (body : ∀ p e s m args below meth c s₁, BodyLoose p l y (headSpec ws rm) cc maxL ret e s m args below meth c s₁ → c.maxLocals = maxL → (∀ x ∈ c.exceptionTable.toList, False) → Pc args s →
      W p l e (headSpec ws rm).room s m args below meth c s.heap [] 0 0 (vx_MQ below Qc XC args s mc ms free) (entryFrame m args maxL)) : vx_Met l y ws rm Pc Qc XC mc ms free := by
  refine MetFree.of_bodyS (code := cc) (maxLocals := maxL) (ret := ret) hy ?_ ?_
  · intro args s m h hn
    obtain ⟨meth, c, h1, h2, h3, h4, h5, h6, -, -⟩ := Cond.code_spec hn (atoms_spec (ws := ws) h _ (by rw [hw]; exact List.mem_cons_self))
    exact ⟨meth, c, h1, h2, h3, h4, h5, h6⟩
  · intro p e s m args below meth c s₁ B hml hP _
    have hh0 : s₁.heap = s.heap := by rw [B.state]; rfl
    have ht : ∀ x ∈ c.exceptionTable.toList, False := by
      obtain ⟨meth9, c9, h1, h2, -, -, -, -, h7, -⟩ := Cond.code_spec B.named (atoms_spec (ws := ws) B.pre _ (by rw [hw]; exact List.mem_cons_self))
      cases Option.some.inj (h1.symm.trans B.method)
      cases Option.some.inj (h2.symm.trans (Stand.of_body B).code)
      intro x hx
      rw [Array.isEmpty_iff.mp h7] at hx
      cases hx
    obtain ⟨t, a1, o, b1, b2, b3⟩ := body p e s m args below meth c s₁ B hml ht hP s₁ hh0 (Stand.of_body B)
    exact ⟨t, o, a1, b1, b2, b3⟩
/-- the table of a body with handlers -/
theorem vx_table {p : Program} {x y : MethodName} {S : Spec} {cc bytes : ByteArray} {maxL maxL' : Nat} {ret ret' : Option FieldType} {e : Env} {s s₁ : State} {m : MethodId} {args : Array Value} {below : List Frame} {meth : Method} {c : Code} {hh : List (Nat × Nat × Nat × Nat)}
    (B : BodyLoose p l y S cc maxL ret e s m args below meth c s₁) (h : (Cond.codeWith y bytes maxL' ret' hh).before args s = true) : c.exceptionTable.toList = tableOf hh := by
  obtain ⟨m9, meth9, c9, hn9, h1, h2, -, -, h6, -⟩ := Cond.codeWith_spec h
  cases Option.some.inj (hn9.symm.trans B.named)
  cases Option.some.inj (h1.symm.trans B.method)
  cases Option.some.inj (h2.symm.trans (Stand.of_body B).code)
  rw [← h6, table_eq]
end Bodies
end VXA
/-! ===== END ===== -/
/-! ===== BEGIN a static call of a method with an exception table ===== -/
section VXS
variable {p : Program} {l : Launch} {e : Env} {R : Room} {s : State} {m : MethodId} {args : Array Value} {below : List Frame} {meth : Method} {c : Code} {T : State} {H : Heap} {locs : List Loc} {cells slots : Nat}
abbrev vx_CSW (R : Room) (s : State) (args : Array Value) (own : String) (index : Nat) (y : MethodName) (bytes : ByteArray) (maxL : Nat) (ret : Option FieldType) (hh : List (Nat × Nat × Nat × Nat)) (ws : List Cond) (rm : Room) (mc ms n : Nat) : Prop :=
  (rm.cells = mc ∧ rm.slots = ms ∧ rm.frames + 1 ≤ R.frames ∧ 8 + (maxL + 11) + rm.locals ≤ R.locals ∧ (∀ w ∈ ws, ∀ (a' : Array Value) (U : State), s.WarmedH U.vm → w.before a' U = true) ∧ Cond.codeWith y bytes maxL ret hh ∈ ws) ∧
  (Cond.codeWith y bytes maxL ret hh).before args s = true ∧ (Cond.initialized y.cls).before args s = true ∧ (y.cls ≠ "java/lang/invoke/MethodHandle" ∧ y.cls ≠ "java/lang/invoke/VarHandle") ∧
  (∀ sig, parseMethodDescriptor y.desc = some sig → n = sig.parameters.length) ∧ (Cond.methodLink own index y).before args s = true ∧ (Cond.static y).before args s = true
theorem vx_cwSW {own : String} {index maxL mc ms : Nat} {y : MethodName} {bytes : ByteArray} {ret : Option FieldType} {hh : List (Nat × Nat × Nat × Nat)} {Ts ws ws' : List Cond} {rm : Room} (n : Nat) (ht : ∀ w ∈ Ts, w.before args s = true) (hT : GoodIn Ts (va_wsS own index y ws)) (hw : ws = Cond.codeWith y bytes maxL ret hh :: ws') (hrc : rm.cells = mc) (hrs : rm.slots = ms)
    (hd : y.cls ≠ "java/lang/invoke/MethodHandle" ∧ y.cls ≠ "java/lang/invoke/VarHandle" ∧ (parseMethodDescriptor y.desc).map (fun d => d.parameters.length) = some n) (hR : rm.frames + 1 ≤ R.frames ∧ 8 + (maxL + 11) + rm.locals ≤ R.locals) :
    vx_CSW R s args own index y bytes maxL ret hh ws rm mc ms n := by
  have ok : ∀ w ∈ va_wsS own index y ws, w.before args s = true := fun w h => ht w (hT w h).1
  have hG : GoodIn Ts ws := fun w h => hT w (by unfold va_wsS; exact List.mem_append_right _ h)
  have hc : Cond.codeWith y bytes maxL ret hh ∈ ws := by rw [hw]; exact List.mem_cons_self
  refine ⟨⟨hrc, hrs, hR.1, hR.2, pay_in ht hG, hc⟩, ht _ (hG _ hc).1, ok _ (by simp [va_wsS]), ⟨hd.1, hd.2.1⟩, fun sig h => ?_, ok _ (by simp [va_wsS]), ok _ (by simp [va_wsS])⟩
  have h2 := hd.2.2
  rw [h] at h2
  exact (Option.some.inj h2).symm
theorem vx_callSW (X : Stand p l e R s m args below meth c T locs cells slots) (hexec : p.tables.exec = Jvm.exec) {own : String} {index : Nat} {y : MethodName} {bytes : ByteArray} {maxL : Nat} {ret : Option FieldType} {hh : List (Nat × Nat × Nat × Nat)}
    (hown : s.vm.findClass own = some m.cls) (hlink : (Cond.methodLink own index y).before args s = true) (hstat : (Cond.static y).before args s = true) (hinit : (Cond.initialized y.cls).before args s = true)
    (hcode : (Cond.codeWith y bytes maxL ret hh).before args s = true) (hy : y.cls ≠ "java/lang/invoke/MethodHandle" ∧ y.cls ≠ "java/lang/invoke/VarHandle")
    {W9 : Nat} {Pre : Pt → Array Value → Prop} {Post : Pt → Array Value → Option Value → Pt → Prop} (hK : Back l R p e below s args y 3 W9 Pre Post)
    {g : JFrame} (hg : g.method = m) (hsize : g.locals.size = c.maxLocals) {argsL rest : List Value} (hlen : ∀ sig, parseMethodDescriptor y.desc = some sig → argsL.length = sig.parameters.length)
    (hstack : g.stack = argsL.reverse ++ rest) (hW : 2 * g.monitorRoom + (rest.map fun v => v.category).sum ≤ W9) (hdg : decode c.code g.pc = .ok (.invokestatic index, 3))
    (hpre : ∀ vm₁, s.WarmedH vm₁ → Pre ⟨T.setVm vm₁, locs, cells, slots⟩ argsL.toArray) :
    ∃ (v : Option Value) (vm₁ : Vm) (B : Pt), s.WarmedH vm₁ ∧ Stand p l e R s m args below meth c B.U B.locs B.cells B.slots ∧ Post ⟨T.setVm vm₁, locs, cells, slots⟩ argsL.toArray v B ∧
      ∀ target, Steps p.tables e below (B.U.setTop { g with pc := g.pc + 3, stack := v.toList ++ rest }) target → Steps p.tables e below (T.setTop g) target := by
  obtain ⟨mk, methM, cM, hnamed, hmethM, -, -, -, -, -, -, hsigM⟩ := Cond.codeWith_spec hcode
  have hstatic : methM.isStatic = true := Cond.static_spec hnamed hmethM hstat
  obtain ⟨kP, hkP, -⟩ := className_of_methodNamed hnamed
  have hinitP : kP.init = .initialized := Cond.initialized_spec (findClass_of_methodNamed hnamed) hkP hinit
  obtain ⟨vm₁, X₁, hstep₁⟩ := X.invokestatic hexec hown hlink hnamed hmethM hstatic hkP hinitP hy (g := g) hg (argsL := argsL) (rest := rest) (hlen _ hsigM) hstack hdg
  obtain ⟨v, B, X', hpost, hsteps⟩ := hK m meth c ⟨T.setVm vm₁, locs, cells, slots⟩ { g with stack := rest } (.invokestatic index) mk argsL.toArray X₁ hg hsize hdg hW (X₁.named hnamed) (hpre vm₁ X₁.warmed)
  exact ⟨v, vm₁, B, X₁.warmed, X', hpost, fun target h => hstep₁ _ fun acts => by rw [doInvoke_state]; exact hsteps.trans h⟩
theorem vx_runSW {y : MethodName} {bytes cc : ByteArray} {maxL nL mc ms n index : Nat} {ret : Option FieldType} {hh : List (Nat × Nat × Nat × Nat)} {ws : List Cond} {rm : Room} {Pc : Array Value → State → Prop} {Qc : Array Value → State → Outcome → State → Prop} {free : Addr → Prop} {Ts : List Cond} {own : String} {As rest : List Value} {g : JFrame}
    (S : CallFix p m c cc nL s args Ts own) (hM : Met l y ws rm Pc Qc mc ms free) (cw : vx_CSW R s args own index y bytes maxL ret hh ws rm mc ms n) (hp : PreS s H Pc As)
    (hg : g.method = m) (hn : As.length = n) (hsize : g.locals.size = nL) (hstack : g.stack = As.reverse ++ rest) (hW : 2 * g.monitorRoom + (rest.map fun v => v.category).sum ≤ 8) (hdg : decode cc g.pc = .ok (.invokestatic index, 3)) (hf : cells + mc ≤ R.cells ∧ slots + ms ≤ R.slots) :
    va_Run p l e R s m args below meth c H locs cells slots mc ms g rest (Qc As.toArray) (free) := by
  obtain ⟨⟨hrc, hrs, hfr, hlo, hws, hcw⟩, hcode, hini, hy, hlen, hl, hstt⟩ := cw
  have hK : Back l R p e below s args y 3 8 (PreOf R mc ms Pc) (PostOf Qc mc ms free) := va_backW (hh := hh) (bytes := bytes) (maxL := maxL) (ret := ret) hM hp.1 hrc hrs hfr hlo hws hcw (fun a' U hW => word_at hW (Or.inl (by first | rfl | simp [Cond.onTables, Cond.keeps, Cond.steady])) hini)
  obtain ⟨hx, hb, hml, ho, -⟩ := S
  intro T hT X
  obtain ⟨v, vm₁, ⟨U', l2, c2, s2⟩, hW₁, X', ⟨g', mk, t, L, e1, e2, hq, h1, hL, h2, h3⟩, st⟩ := vx_callSW X hx (hh := hh) (bytes := bytes) (maxL := maxL) (ret := ret) ho hl hstt hini hcode hy hK hg (hsize.trans hml.symm) (argsL := As) (rest := rest) (fun sig h => hn.trans (hlen sig h)) hstack hW (by rw [hb]; exact hdg)
    (fun vm₁ hW₁ => ⟨hf.1, hf.2, hp.2 (T.setVm vm₁) hT hW₁⟩)
  dsimp only [Pt.U, Pt.locs, Pt.cells, Pt.slots] at X' e1 e2 h1 h2 h3 st
  subst h1; subst h2; subst h3
  exact ⟨v, (T.setVm vm₁).calling g' mk As.toArray, t, U', L, hT, X', hL, e1, e2, hq, st⟩
/-- not caught here, past rows that name other classes: it goes on to the caller -/
theorem vx_outP {p : Program} {l : Launch} {e : Env} {R : Room} {s : State} {m : MethodId} {args : Array Value} {below : List Frame} {meth : Method} {c : Code} {H : Heap} {locs : List Loc} {cells slots : Nat} {free : Addr → Prop} {ls : Array Slot} {rest : List Value} {Qc : Array Value → State → Outcome → State → Prop} {XC : String → State → State → Prop}
    {pc : Nat} {own E : String} {ce : Cell} {q : Addr} {mc ms : Nat} (hown : s.vm.findClass own = some m.cls) (hlocks : meth.locks = false)
    (hpass : ∀ z ∈ c.exceptionTable.toList, covers z pc = false ∨ (z.catchType ≠ 0 ∧ ∃ nm : String, (Cond.classLink own z.catchType nm).before args s = true ∧ va_Nc E nm s)) (hcell : H[q]? = some ce) (hv : ce.vm = .none) (hcl : s.vm.findClass E = some ce.cls)
    (hx : ∀ t : State, t.heap = H → s.vm.Alike t.vm → XC E s t) (hf : ∀ z ∈ locs, free z.base) (hc : cells ≤ mc) (hs : slots ≤ ms) :
    vx_W p l e R s m args below meth c H locs cells slots (vx_MQ below Qc XC args s mc ms free) (F0 m pc ls rest) q := by
  intro T hT X
  have hpl : e.platform.magicAccessors = ({} : Platform).magicAccessors := by rw [X.admits.platform]
  obtain ⟨vm', hW', X', st⟩ := X.outThrough hlocks q (g := F0 m pc ls rest) rfl rfl rfl (cell := ce) (by rw [hT]; exact hcell) (by rw [hv]; rfl)
    (by obtain ⟨k9, h9, -⟩ := Vm.findClass_spec hcl; exact ⟨k9, h9⟩) (fun z hz => by
      rcases hpass z hz with h | ⟨hz0, nm, hl1, hn1⟩
      · exact Or.inl h
      · obtain ⟨c6, hc6, hcl6⟩ := Cond.classLink_spec hown hl1 e.platform hpl
        obtain ⟨a8, b8, h1, h2, h3⟩ := hn1
        cases Option.some.inj (h1.symm.trans hcl)
        cases Option.some.inj (h2.symm.trans hc6)
        exact Or.inr ⟨hz0, _, hcl6, h3⟩)
  obtain ⟨g₀, hfr⟩ := X'.frames_eq
  have hcell9 : ((T.setVm vm').setFrames (.throwing q :: below)).heap[q]? = some ce := by
    show T.heap[q]? = some ce
    rw [hT]; exact hcell
  have hend : Ended ((T.setVm vm').setFrames (.throwing q :: below)) below (.threw q) := State.frames_setFrames _ (State.cur_lt_of_frames hfr)
  refine ⟨(T.setVm vm').setFrames (.throwing q :: below), ?_, .threw q, X'.here.running, hend, Or.inr ⟨q, rfl, E, ce, locs, hx _ hT (X'.ends _).1.alike, hcell9, hv, hcl, (X'.ends _).1, (X'.ends _).2.mono hc hs, hf⟩⟩
  rw [X.pushThrowing_eq]
  exact st
/-- a thing of a world lies in the heap -/
theorem vx_lt {D : va_G} {cl : List vw_C} {ws : va_W} {H1 : Heap} (h : va_P D cl ws H1) {k : Nat} {q : Nat × va_E} (hk : ws[k]? = some q) : q.1 < H1.size := (h k q hk).lt
end VXS
/-! ===== END ===== -/
/-! ===== BEGIN methods with a table of their own: called by a name, returning or throwing ===== -/
section VXH
/-! vx_backW, vx_callVX, vx_callSX, vx_callVW, vx_runVW, vx_runVX, vx_runSX, vx_ofWH follow the same proofs as their sisters above (Free/Laws.lean, Shelf42/LK1.lean); vx_outP calls Shelf42/NT130.lean (outThrough). -/
section
variable {l : Launch} {R : Room} {p : Program} {e : Env} {below : List Frame} {s : State} {sargs : Array Value} {y : MethodName} {len W9 : Nat}
theorem vx_backW {ws : List Cond} {rm : Room} {Pc : Array Value → State → Prop} {Qc : Array Value → State → Outcome → State → Prop} {XC : String → State → State → Prop} {mc ms : Nat} {free : Addr → Prop} {bytes : ByteArray} {maxL : Nat} {ret : Option FieldType} {hh : List (Nat × Nat × Nat × Nat)}
    (hM : vx_Met l y ws rm Pc Qc XC mc ms free) (hblind : FrameBlind Pc) (hrc : rm.cells = mc) (hrs : rm.slots = ms)
    (hframes : rm.frames + 1 ≤ R.frames) (hlocals : W9 + (maxL + 11) + rm.locals ≤ R.locals)
    (hws : ∀ w ∈ ws, ∀ a' U, s.WarmedH U.vm → w.before a' U = true) (hcode : Cond.codeWith y bytes maxL ret hh ∈ ws) (hinit : ∀ a' U, s.WarmedH U.vm → (Cond.initialized y.cls).before a' U = true) :
    vx_Back l R p e below s sargs y len W9 (PreOf R mc ms Pc) (PostOf Qc mc ms free) (vx_Post XC mc ms free) := by
  intro m meth c A g ig mk a X hg hsize hdg hW hn hp
  have h1 : (headSpec ws rm).pre.before a A.U = true := atoms_intro fun w hw => hws w hw _ _ X.warmed
  have h2 : (Cond.codeWith y bytes maxL ret hh).before a A.U = true := hws _ hcode _ _ X.warmed
  have h3 : (Cond.initialized y.cls).before a A.U = true := hinit _ _ X.warmed
  have h4 : A.cells + (headSpec ws rm).room.cells ≤ R.cells := by rw [show (headSpec ws rm).room.cells = mc from hrc]; exact hp.1
  have h5 : A.slots + (headSpec ws rm).room.slots ≤ R.slots := by rw [show (headSpec ws rm).room.slots = ms from hrs]; exact hp.2.1
  have hPc : Pc a (A.U.calling g mk a) := hblind _ _ _ _ hp.2.2
  obtain ⟨U, Ls, c0, s0⟩ := A
  dsimp only [Pt.U, Pt.locs, Pt.cells, Pt.slots] at h1 h2 h3 h4 h5 X hn hPc ⊢
  obtain ⟨m9, methY, cY, hn9, hmY, hcY, -, hlY, -⟩ := Cond.codeWith_spec h2
  cases Option.some.inj (hn9.symm.trans hn)
  obtain ⟨kY, hkY, -⟩ := className_of_methodNamed hn
  have hinitY : kY.init = .initialized := Cond.initialized_spec (findClass_of_methodNamed hn) hkY h3
  have h : At U g.method c below := by rw [hg]; exact X.here
  have hlocals9 : W9 + (maxL + 11) + (headSpec ws rm).room.locals ≤ R.locals := hlocals
  have happ : (headSpec ws rm).appliesLoose y e.platform (U.calling g mk a) = true :=
    Spec.appliesLoose_calling (g := g) h hdg hn hkY hinitY
      (X.room_calling (g := g) (R' := (headSpec ws rm).room) hsize hmY hcY hframes (by rw [hlY]; omega) h4 h5) h1
  obtain ⟨mid, hmid⟩ := h.above
  have hfr : (U.setTop g).frames = (.java g :: mid) ++ below := by rw [State.frames_setTop' g h.top, hmid]; rfl
  obtain ⟨o, s₂, hsteps, -, hend, hq⟩ := Steps.callFree hM p X.admits X.cas X.clock (acts := []) hfr happ hPc trivial
  have hq' : vx_Q Qc XC mc ms free a (U.calling g mk a) o s₂ := hq
  rw [State.frames_setTop' g h.top] at hend
  obtain ⟨g₀, hg0⟩ := Option.isSome_iff_exists.mp h.top
  obtain ⟨r, hr⟩ := State.topJava?_eq_some.mp hg0
  have hr' : (({ U with heap := s₂.heap, slotsUsed := s₂.slotsUsed } : State).setVm s₂.vm).frames = .java g₀ :: r := hr
  rcases hq' with ⟨hqc, L, hfe, hL⟩ | ⟨q, rfl, E, ce, L, hx, hce, hcv, hcl, hW₂, hsm, hL⟩
  · obtain ⟨⟨v, rfl⟩, hW₂, e2, q2, q3, q4, q5, q6⟩ := id hfe
    have e3 : s₂ = ({ (U.calling g mk a).setFrames s₂.frames with heap := s₂.heap, slotsUsed := s₂.slotsUsed } : State).setVm s₂.vm := by
      have : s₂ = ({ s₂ with vm := (U.calling g mk a).vm } : State).setVm s₂.vm := rfl
      rw [e2] at this
      exact this
    obtain ⟨c₂, i₂, len₂, hc₂, hd₂, hf₂⟩ := hend
    have hW' : U.WarmedH s₂.vm := hW₂
    have hcc : c₂ = c := by
      have h1 : s₂.code? g.method = U.code? g.method := by
        rw [State.code?_eq, State.code?_eq, hW'.alike.method?]
      exact Option.some.inj (hc₂.symm.trans (h1.trans h.code))
    subst hcc
    have hlen : len₂ = len := by rw [hdg] at hd₂; cases hd₂; rfl
    subst hlen
    have hs₂ : s₂ = (({ U with heap := s₂.heap, slotsUsed := s₂.slotsUsed } : State).setVm s₂.vm).setTop { g with pc := g.pc + len₂, stack := v.toList ++ g.stack } := by
      refine e3.trans ?_
      rw [hf₂, State.calling_eq h.top, State.setFrames_setFrames, State.setTop_of_frames _ hr', hr]
      rfl
    have hsame : U.sameButNew ({ U with heap := s₂.heap, slotsUsed := s₂.slotsUsed } : State) L mc ms := by
      refine ⟨?_, q2, q3, q4, q5, q6⟩
      obtain ⟨t, ht, -⟩ := State.frames_cons hr
      show ({ U with heap := s₂.heap, slotsUsed := s₂.slotsUsed } : State) = { U.setFrames U.frames with heap := s₂.heap, slotsUsed := s₂.slotsUsed }
      rw [State.setFrames_self ht]
    subst hg
    refine Or.inl ⟨v, ⟨(({ U with heap := s₂.heap, slotsUsed := s₂.slotsUsed } : State).setVm s₂.vm), Ls ++ L, c0 + mc, s0 + ms⟩,
      ⟨X.admits, X.cas, X.clock, X.frames, X.room, X.hears, X.method, X.code, (X.here.setHeapUsed s₂.heap s₂.slotsUsed).setVm hW'.alike, X.tail, State.WarmedH.trans X.warmed hW', X.limits, X.bytes, X.same.trans (hsame.setVm s.vm)⟩,
      ⟨g, mk, s₂, L, rfl, rfl, hqc, rfl, hL, rfl, rfl⟩, ?_⟩
    show Steps p.tables e below _ ((({ U with heap := s₂.heap, slotsUsed := s₂.slotsUsed } : State).setVm s₂.vm).setTop { g with pc := g.pc + len₂, stack := v.toList ++ g.stack })
    rw [← hs₂]
    exact hsteps
  · obtain ⟨e2, q2, q3, q4, q5, q6⟩ := id hsm
    have e3 : s₂ = ({ (U.calling g mk a).setFrames s₂.frames with heap := s₂.heap, slotsUsed := s₂.slotsUsed } : State).setVm s₂.vm := by
      have : s₂ = ({ s₂ with vm := (U.calling g mk a).vm } : State).setVm s₂.vm := rfl
      rw [e2] at this
      exact this
    have hf₂ : s₂.frames = .throwing q :: .java g :: U.frames.tail := hend
    have hW' : U.WarmedH s₂.vm := hW₂
    have hs₂ : s₂ = ((({ U with heap := s₂.heap, slotsUsed := s₂.slotsUsed } : State).setVm s₂.vm).setTop g).pushFrame (.throwing q) := by
      refine e3.trans ?_
      rw [hf₂, State.calling_eq h.top, State.setFrames_setFrames, State.pushFrame, State.frames_setTop _ hr', State.setTop_of_frames _ hr', State.setFrames_setFrames, hr]
      rfl
    have hsame : U.sameButNew ({ U with heap := s₂.heap, slotsUsed := s₂.slotsUsed } : State) L mc ms := by
      refine ⟨?_, q2, q3, q4, q5, q6⟩
      obtain ⟨t, ht, -⟩ := State.frames_cons hr
      show ({ U with heap := s₂.heap, slotsUsed := s₂.slotsUsed } : State) = { U.setFrames U.frames with heap := s₂.heap, slotsUsed := s₂.slotsUsed }
      rw [State.setFrames_self ht]
    subst hg
    refine Or.inr ⟨q, ⟨(({ U with heap := s₂.heap, slotsUsed := s₂.slotsUsed } : State).setVm s₂.vm), Ls ++ L, c0 + mc, s0 + ms⟩,
      ⟨X.admits, X.cas, X.clock, X.frames, X.room, X.hears, X.method, X.code, (X.here.setHeapUsed s₂.heap s₂.slotsUsed).setVm hW'.alike, X.tail, State.WarmedH.trans X.warmed hW', X.limits, X.bytes, X.same.trans (hsame.setVm s.vm)⟩,
      ⟨g, mk, s₂, L, E, ce, rfl, rfl, hx, hce, hcv, hcl, rfl, hL, rfl, rfl⟩, ?_⟩
    show Steps p.tables e below _ (((({ U with heap := s₂.heap, slotsUsed := s₂.slotsUsed } : State).setVm s₂.vm).setTop g).pushFrame (.throwing q))
    rw [← hs₂]
    exact hsteps
end
variable {p : Program} {l : Launch} {e : Env} {R : Room} {s : State} {m : MethodId} {args : Array Value} {below : List Frame} {meth : Method} {c : Code} {T : State} {H : Heap} {locs : List Loc} {cells slots : Nat}
theorem vx_callVX (X : Stand p l e R s m args below meth c T locs cells slots) (hexec : p.tables.exec = Jvm.exec) {own C : String} {index : Nat} {y : MethodName} {bytes : ByteArray} {maxL : Nat} {ret : Option FieldType} {hh : List (Nat × Nat × Nat × Nat)}
    (hown : s.vm.findClass own = some m.cls) (hlink : (Cond.methodLink own index y).before args s = true) (hinst : (Cond.instanceMethod y).before args s = true) (hsel : (Cond.selects C y y).before args s = true)
    (hcode : (Cond.codeWith y bytes maxL ret hh).before args s = true) (hy : y.cls ≠ "java/lang/invoke/MethodHandle" ∧ y.cls ≠ "java/lang/invoke/VarHandle")
    {W9 : Nat} {Pre : Pt → Array Value → Prop} {Post : Pt → Array Value → Option Value → Pt → Prop} {PostX : Pt → Array Value → Addr → Pt → Prop} (hK : vx_Back l R p e below s args y 3 W9 Pre Post PostX)
    {b : Addr} {cellB : Cell} (hcell : T.heap[b]? = some cellB) (hobj : cellB.vm.isStatics = false) (hcls : s.vm.findClass C = some cellB.cls)
    {g : JFrame} (hg : g.method = m) (hsize : g.locals.size = c.maxLocals) {argsL rest : List Value} (hlen : ∀ sig, parseMethodDescriptor y.desc = some sig → argsL.length = sig.parameters.length)
    (hstack : g.stack = argsL.reverse ++ .ref b :: rest) (hW : 2 * g.monitorRoom + (rest.map fun v => v.category).sum ≤ W9) (hdg : decode c.code g.pc = .ok (.invokevirtual index, 3))
    (hpre : ∀ vm₁, s.WarmedH vm₁ → Pre ⟨T.setVm vm₁, locs, cells, slots⟩ (Value.ref b :: argsL).toArray) :
    (∃ (v : Option Value) (vm₁ : Vm) (B : Pt), s.WarmedH vm₁ ∧ Stand p l e R s m args below meth c B.U B.locs B.cells B.slots ∧ Post ⟨T.setVm vm₁, locs, cells, slots⟩ (Value.ref b :: argsL).toArray v B ∧
      ∀ target, Steps p.tables e below (B.U.setTop { g with pc := g.pc + 3, stack := v.toList ++ rest }) target → Steps p.tables e below (T.setTop g) target) ∨
    (∃ (q : Addr) (vm₁ : Vm) (B : Pt), s.WarmedH vm₁ ∧ Stand p l e R s m args below meth c B.U B.locs B.cells B.slots ∧ PostX ⟨T.setVm vm₁, locs, cells, slots⟩ (Value.ref b :: argsL).toArray q B ∧
      Steps p.tables e below (T.setTop g) ((B.U.setTop { g with stack := rest }).pushFrame (.throwing q))) := by
  obtain ⟨mk, methM, hnamed, hmethM, hstM, habM⟩ := Cond.instanceMethod_spec hinst
  obtain ⟨m8, methM', cM, hn8, hmethM', -, -, -, -, -, -, hsigM⟩ := Cond.codeWith_spec hcode
  cases Option.some.inj (hn8.symm.trans hnamed)
  cases hmethM.symm.trans hmethM'
  obtain ⟨c2, r2, m2, q1, q2, q3, q4, kP, hkP, hkPi⟩ := Cond.selects_spec hsel
  cases hcls.symm.trans q1
  cases (State.methodFound?_of_named hnamed hy).symm.trans q2
  cases hnamed.symm.trans q3
  have hselP : selectMethod e.platform s.vm cellB.cls mk = .method mk := by rw [Launch.admits_selectMethod X.admits]; exact q4
  obtain ⟨vm₁, X₁, hstep₁⟩ := X.invokevirtual hexec hown hlink hnamed hmethM hstM hkP hkPi hy (a := b) (cell := cellB) hcell
    (fun z h => by rw [h] at hobj; cases hobj) hselP hmethM habM hkP hkPi (g := g) hg (argsL := argsL) (rest := rest) (hlen _ hsigM) hstack hdg
  rcases hK m meth c ⟨T.setVm vm₁, locs, cells, slots⟩ { g with stack := rest } (.invokevirtual index) mk (Value.ref b :: argsL).toArray X₁ hg hsize hdg hW (X₁.named hnamed) (hpre vm₁ X₁.warmed) with ⟨v, B, X', hpost, hsteps⟩ | ⟨q, B, X', hpost, hsteps⟩
  · exact Or.inl ⟨v, vm₁, B, X₁.warmed, X', hpost, fun target h => hstep₁ _ fun acts => by rw [doInvoke_state]; exact hsteps.trans h⟩
  · exact Or.inr ⟨q, vm₁, B, X₁.warmed, X', hpost, hstep₁ _ fun acts => by rw [doInvoke_state]; exact hsteps⟩
theorem vx_callSX (X : Stand p l e R s m args below meth c T locs cells slots) (hexec : p.tables.exec = Jvm.exec) {own : String} {index : Nat} {y : MethodName} {bytes : ByteArray} {maxL : Nat} {ret : Option FieldType} {hh : List (Nat × Nat × Nat × Nat)}
    (hown : s.vm.findClass own = some m.cls) (hlink : (Cond.methodLink own index y).before args s = true) (hstat : (Cond.static y).before args s = true) (hinit : (Cond.initialized y.cls).before args s = true)
    (hcode : (Cond.codeWith y bytes maxL ret hh).before args s = true) (hy : y.cls ≠ "java/lang/invoke/MethodHandle" ∧ y.cls ≠ "java/lang/invoke/VarHandle")
    {W9 : Nat} {Pre : Pt → Array Value → Prop} {Post : Pt → Array Value → Option Value → Pt → Prop} {PostX : Pt → Array Value → Addr → Pt → Prop} (hK : vx_Back l R p e below s args y 3 W9 Pre Post PostX)
    {g : JFrame} (hg : g.method = m) (hsize : g.locals.size = c.maxLocals) {argsL rest : List Value} (hlen : ∀ sig, parseMethodDescriptor y.desc = some sig → argsL.length = sig.parameters.length)
    (hstack : g.stack = argsL.reverse ++ rest) (hW : 2 * g.monitorRoom + (rest.map fun v => v.category).sum ≤ W9) (hdg : decode c.code g.pc = .ok (.invokestatic index, 3))
    (hpre : ∀ vm₁, s.WarmedH vm₁ → Pre ⟨T.setVm vm₁, locs, cells, slots⟩ argsL.toArray) :
    (∃ (v : Option Value) (vm₁ : Vm) (B : Pt), s.WarmedH vm₁ ∧ Stand p l e R s m args below meth c B.U B.locs B.cells B.slots ∧ Post ⟨T.setVm vm₁, locs, cells, slots⟩ argsL.toArray v B ∧
      ∀ target, Steps p.tables e below (B.U.setTop { g with pc := g.pc + 3, stack := v.toList ++ rest }) target → Steps p.tables e below (T.setTop g) target) ∨
    (∃ (q : Addr) (vm₁ : Vm) (B : Pt), s.WarmedH vm₁ ∧ Stand p l e R s m args below meth c B.U B.locs B.cells B.slots ∧ PostX ⟨T.setVm vm₁, locs, cells, slots⟩ argsL.toArray q B ∧
      Steps p.tables e below (T.setTop g) ((B.U.setTop { g with stack := rest }).pushFrame (.throwing q))) := by
  obtain ⟨mk, methM, cM, hnamed, hmethM, -, -, -, -, -, -, hsigM⟩ := Cond.codeWith_spec hcode
  have hstatic : methM.isStatic = true := Cond.static_spec hnamed hmethM hstat
  obtain ⟨kP, hkP, -⟩ := className_of_methodNamed hnamed
  have hinitP : kP.init = .initialized := Cond.initialized_spec (findClass_of_methodNamed hnamed) hkP hinit
  obtain ⟨vm₁, X₁, hstep₁⟩ := X.invokestatic hexec hown hlink hnamed hmethM hstatic hkP hinitP hy (g := g) hg (argsL := argsL) (rest := rest) (hlen _ hsigM) hstack hdg
  rcases hK m meth c ⟨T.setVm vm₁, locs, cells, slots⟩ { g with stack := rest } (.invokestatic index) mk argsL.toArray X₁ hg hsize hdg hW (X₁.named hnamed) (hpre vm₁ X₁.warmed) with ⟨v, B, X', hpost, hsteps⟩ | ⟨q, B, X', hpost, hsteps⟩
  · exact Or.inl ⟨v, vm₁, B, X₁.warmed, X', hpost, fun target h => hstep₁ _ fun acts => by rw [doInvoke_state]; exact hsteps.trans h⟩
  · exact Or.inr ⟨q, vm₁, B, X₁.warmed, X', hpost, hstep₁ _ fun acts => by rw [doInvoke_state]; exact hsteps⟩
theorem vx_callVW (X : Stand p l e R s m args below meth c T locs cells slots) (hexec : p.tables.exec = Jvm.exec) {own C : String} {index : Nat} {y : MethodName} {bytes : ByteArray} {maxL : Nat} {ret : Option FieldType} {hh : List (Nat × Nat × Nat × Nat)}
    (hown : s.vm.findClass own = some m.cls) (hlink : (Cond.methodLink own index y).before args s = true) (hinst : (Cond.instanceMethod y).before args s = true) (hsel : (Cond.selects C y y).before args s = true)
    (hcode : (Cond.codeWith y bytes maxL ret hh).before args s = true) (hy : y.cls ≠ "java/lang/invoke/MethodHandle" ∧ y.cls ≠ "java/lang/invoke/VarHandle")
    {W9 : Nat} {Pre : Pt → Array Value → Prop} {Post : Pt → Array Value → Option Value → Pt → Prop} (hK : Back l R p e below s args y 3 W9 Pre Post)
    {b : Addr} {cellB : Cell} (hcell : T.heap[b]? = some cellB) (hobj : cellB.vm.isStatics = false) (hcls : s.vm.findClass C = some cellB.cls)
    {g : JFrame} (hg : g.method = m) (hsize : g.locals.size = c.maxLocals) {argsL rest : List Value} (hlen : ∀ sig, parseMethodDescriptor y.desc = some sig → argsL.length = sig.parameters.length)
    (hstack : g.stack = argsL.reverse ++ .ref b :: rest) (hW : 2 * g.monitorRoom + (rest.map fun v => v.category).sum ≤ W9) (hdg : decode c.code g.pc = .ok (.invokevirtual index, 3))
    (hpre : ∀ vm₁, s.WarmedH vm₁ → Pre ⟨T.setVm vm₁, locs, cells, slots⟩ (Value.ref b :: argsL).toArray) :
    ∃ (v : Option Value) (vm₁ : Vm) (B : Pt), s.WarmedH vm₁ ∧ Stand p l e R s m args below meth c B.U B.locs B.cells B.slots ∧ Post ⟨T.setVm vm₁, locs, cells, slots⟩ (Value.ref b :: argsL).toArray v B ∧
      ∀ target, Steps p.tables e below (B.U.setTop { g with pc := g.pc + 3, stack := v.toList ++ rest }) target → Steps p.tables e below (T.setTop g) target := by
  obtain ⟨mk, methM, hnamed, hmethM, hstM, habM⟩ := Cond.instanceMethod_spec hinst
  obtain ⟨m8, methM', cM, hn8, hmethM', -, -, -, -, -, -, hsigM⟩ := Cond.codeWith_spec hcode
  cases Option.some.inj (hn8.symm.trans hnamed)
  cases hmethM.symm.trans hmethM'
  obtain ⟨c2, r2, m2, q1, q2, q3, q4, kP, hkP, hkPi⟩ := Cond.selects_spec hsel
  cases hcls.symm.trans q1
  cases (State.methodFound?_of_named hnamed hy).symm.trans q2
  cases hnamed.symm.trans q3
  have hselP : selectMethod e.platform s.vm cellB.cls mk = .method mk := by rw [Launch.admits_selectMethod X.admits]; exact q4
  obtain ⟨vm₁, X₁, hstep₁⟩ := X.invokevirtual hexec hown hlink hnamed hmethM hstM hkP hkPi hy (a := b) (cell := cellB) hcell
    (fun z h => by rw [h] at hobj; cases hobj) hselP hmethM habM hkP hkPi (g := g) hg (argsL := argsL) (rest := rest) (hlen _ hsigM) hstack hdg
  obtain ⟨v, B, X', hpost, hsteps⟩ := hK m meth c ⟨T.setVm vm₁, locs, cells, slots⟩ { g with stack := rest } (.invokevirtual index) mk (Value.ref b :: argsL).toArray X₁ hg hsize hdg hW (X₁.named hnamed) (hpre vm₁ X₁.warmed)
  exact ⟨v, vm₁, B, X₁.warmed, X', hpost, fun target h => hstep₁ _ fun acts => by rw [doInvoke_state]; exact hsteps.trans h⟩
abbrev vx_CVW (R : Room) (s : State) (args : Array Value) (own C : String) (index : Nat) (y : MethodName) (bytes : ByteArray) (maxL : Nat) (ret : Option FieldType) (hh : List (Nat × Nat × Nat × Nat)) (ws : List Cond) (rm : Room) (mc ms n : Nat) : Prop :=
  (rm.cells = mc ∧ rm.slots = ms ∧ rm.frames + 1 ≤ R.frames ∧ 8 + (maxL + 11) + rm.locals ≤ R.locals ∧ (∀ w ∈ ws, ∀ (a' : Array Value) (U : State), s.WarmedH U.vm → w.before a' U = true) ∧ Cond.codeWith y bytes maxL ret hh ∈ ws) ∧
  (Cond.codeWith y bytes maxL ret hh).before args s = true ∧ (Cond.initialized y.cls).before args s = true ∧ (y.cls ≠ "java/lang/invoke/MethodHandle" ∧ y.cls ≠ "java/lang/invoke/VarHandle") ∧
  (∀ sig, parseMethodDescriptor y.desc = some sig → n = sig.parameters.length) ∧ (Cond.methodLink own index y).before args s = true ∧ (Cond.instanceMethod y).before args s = true ∧ (Cond.selects C y y).before args s = true
theorem vx_cwVW {own C : String} {index maxL mc ms : Nat} {y : MethodName} {bytes : ByteArray} {ret : Option FieldType} {hh : List (Nat × Nat × Nat × Nat)} {Ts ws ws' : List Cond} {rm : Room} (n : Nat) (ht : ∀ w ∈ Ts, w.before args s = true) (hT : GoodIn Ts (wsV own index C y ws)) (hw : ws = Cond.codeWith y bytes maxL ret hh :: ws') (hrc : rm.cells = mc) (hrs : rm.slots = ms)
    (hd : y.cls = C ∧ y.cls ≠ "java/lang/invoke/MethodHandle" ∧ y.cls ≠ "java/lang/invoke/VarHandle" ∧ (parseMethodDescriptor y.desc).map (fun d => d.parameters.length) = some n) (hR : rm.frames + 1 ≤ R.frames ∧ 8 + (maxL + 11) + rm.locals ≤ R.locals) :
    vx_CVW R s args own C index y bytes maxL ret hh ws rm mc ms n := by
  obtain ⟨hC, hd⟩ := hd
  subst hC
  have ok : ∀ w ∈ wsV own index y.cls y ws, w.before args s = true := fun w h => ht w (hT w h).1
  have hG : GoodIn Ts ws := fun w h => hT w (by unfold wsV; exact List.mem_append_right _ h)
  have hc : Cond.codeWith y bytes maxL ret hh ∈ ws := by rw [hw]; exact List.mem_cons_self
  refine ⟨⟨hrc, hrs, hR.1, hR.2, pay_in ht hG, hc⟩, ht _ (hG _ hc).1, ok _ (by simp [wsV]), ⟨hd.1, hd.2.1⟩, fun sig h => ?_, ok _ (by simp [wsV]), ok _ (by simp [wsV]), ok _ (by simp [wsV])⟩
  have h2 := hd.2.2
  rw [h] at h2
  exact (Option.some.inj h2).symm
theorem vx_runVW {y : MethodName} {bytes cc : ByteArray} {maxL nL mc ms n index : Nat} {ret : Option FieldType} {hh : List (Nat × Nat × Nat × Nat)} {ws : List Cond} {rm : Room} {Pc : Array Value → State → Prop} {Qc : Array Value → State → Outcome → State → Prop} {free : Addr → Prop} {Ts : List Cond} {own C : String} {b : Addr} {As rest : List Value} {g : JFrame}
    (S : CallFix p m c cc nL s args Ts own) (hM : Met l y ws rm Pc Qc mc ms free) (cw : vx_CVW R s args own C index y bytes maxL ret hh ws rm mc ms n) (hp : PreV s H C b Pc As)
    (hg : g.method = m) (hn : As.length = n) (hsize : g.locals.size = nL) (hstack : g.stack = As.reverse ++ .ref b :: rest) (hW : 2 * g.monitorRoom + (rest.map fun v => v.category).sum ≤ 8) (hdg : decode cc g.pc = .ok (.invokevirtual index, 3)) (hf : cells + mc ≤ R.cells ∧ slots + ms ≤ R.slots) :
    va_Run p l e R s m args below meth c H locs cells slots mc ms g rest (Qc (Value.ref b :: As).toArray) free := by
  obtain ⟨⟨hrc, hrs, hfr, hlo, hws, hcw⟩, hcode, hini, hy, hlen, hl, hin, hse⟩ := cw
  have hK : Back l R p e below s args y 3 8 (PreOf R mc ms Pc) (PostOf Qc mc ms free) := va_backW (hh := hh) (bytes := bytes) (maxL := maxL) (ret := ret) hM hp.1 hrc hrs hfr hlo hws hcw (fun a' U hW => word_at hW (Or.inl (by first | rfl | simp [Cond.onTables, Cond.keeps, Cond.steady])) hini)
  obtain ⟨hx, hb, hml, ho, -⟩ := S
  obtain ⟨-, ⟨cellB, hcB, hoB, hclB⟩, hPc⟩ := hp
  intro T hT X
  obtain ⟨v, vm₁, ⟨U', l2, c2, s2⟩, hW₁, X', ⟨g', mk, t, L, e1, e2, hq, h1, hL, h2, h3⟩, st⟩ := vx_callVW X hx (C := C) (hh := hh) (bytes := bytes) (maxL := maxL) (ret := ret) ho hl hin hse hcode hy hK (by rw [hT]; exact hcB) hoB hclB hg (hsize.trans hml.symm) (argsL := As) (rest := rest) (fun sig h => hn.trans (hlen sig h)) hstack hW (by rw [hb]; exact hdg)
    (fun vm₁ hW₁ => ⟨hf.1, hf.2, hPc (T.setVm vm₁) hT hW₁⟩)
  dsimp only [Pt.U, Pt.locs, Pt.cells, Pt.slots] at X' e1 e2 h1 h2 h3 st
  subst h1; subst h2; subst h3
  exact ⟨v, (T.setVm vm₁).calling g' mk (Value.ref b :: As).toArray, t, U', L, hT, X', hL, e1, e2, hq, st⟩
section
variable {y : MethodName} {bytes cc : ByteArray} {maxL nL mc ms n index : Nat} {ret : Option FieldType} {ws : List Cond} {rm : Room} {Pc : Array Value → State → Prop} {Qc : Array Value → State → Outcome → State → Prop} {XC : String → State → State → Prop} {free : Addr → Prop} {Ts : List Cond} {own C : String} {b : Addr} {As rest : List Value} {g : JFrame}
theorem vx_runVX {hh : List (Nat × Nat × Nat × Nat)} (S : CallFix p m c cc nL s args Ts own) (hM : vx_Met l y ws rm Pc Qc XC mc ms free) (cw : vx_CVW R s args own C index y bytes maxL ret hh ws rm mc ms n) (hp : PreV s H C b Pc As)
    (hg : g.method = m) (hn : As.length = n) (hsize : g.locals.size = nL) (hstack : g.stack = As.reverse ++ .ref b :: rest) (hW : 2 * g.monitorRoom + (rest.map fun v => v.category).sum ≤ 8) (hdg : decode cc g.pc = .ok (.invokevirtual index, 3)) (hf : cells + mc ≤ R.cells ∧ slots + ms ≤ R.slots) :
    vx_Run p l e R s m args below meth c H locs cells slots mc ms g rest (Qc (Value.ref b :: As).toArray) XC free := by
  obtain ⟨⟨hrc, hrs, hfr, hlo, hws, hcw⟩, hcode, hini, hy, hlen, hl, hin, hse⟩ := cw
  have hK : vx_Back l R p e below s args y 3 8 (PreOf R mc ms Pc) (PostOf Qc mc ms free) (vx_Post XC mc ms free) := vx_backW (hh := hh) (bytes := bytes) (maxL := maxL) (ret := ret) hM hp.1 hrc hrs hfr hlo hws hcw (fun a' U hW => word_at hW (Or.inl (by first | rfl | simp [Cond.onTables, Cond.keeps, Cond.steady])) hini)
  obtain ⟨hx, hb, hml, ho, -⟩ := S
  obtain ⟨-, ⟨cellB, hcB, hoB, hclB⟩, hPc⟩ := hp
  intro T hT X
  rcases vx_callVX X hx (C := C) (hh := hh) (bytes := bytes) (maxL := maxL) (ret := ret) ho hl hin hse hcode hy hK (by rw [hT]; exact hcB) hoB hclB hg (hsize.trans hml.symm) (argsL := As) (rest := rest) (fun sig h => hn.trans (hlen sig h)) hstack hW (by rw [hb]; exact hdg)
    (fun vm₁ hW₁ => ⟨hf.1, hf.2, hPc (T.setVm vm₁) hT hW₁⟩) with ⟨v, vm₁, ⟨U', l2, c2, s2⟩, hW₁, X', ⟨g', mk, t, L, e1, e2, hq, h1, hL, h2, h3⟩, st⟩ | ⟨q, vm₁, ⟨U', l2, c2, s2⟩, hW₁, X', ⟨g', mk, t, L, E, ce, e1, e2, hq, hce, hcv, hcl, h1, hL, h2, h3⟩, st⟩
  · dsimp only [Pt.U, Pt.locs, Pt.cells, Pt.slots] at X' e1 e2 h1 h2 h3 st
    subst h1; subst h2; subst h3
    exact Or.inl ⟨v, (T.setVm vm₁).calling g' mk (Value.ref b :: As).toArray, t, U', L, hT, X', hL, e1, e2, hq, st⟩
  · dsimp only [Pt.U, Pt.locs, Pt.cells, Pt.slots] at X' e1 e2 h1 h2 h3 st hcl
    subst h1; subst h2; subst h3
    exact Or.inr ⟨q, (T.setVm vm₁).calling g' mk (Value.ref b :: As).toArray, t, U', L, E, ce, hT, X', hL, e1, e2, hq, hce, hcv, vx_cls hW₁ hcl, st⟩
theorem vx_runSX {hh : List (Nat × Nat × Nat × Nat)} (S : CallFix p m c cc nL s args Ts own) (hM : vx_Met l y ws rm Pc Qc XC mc ms free) (cw : vx_CSW R s args own index y bytes maxL ret hh ws rm mc ms n) (hp : PreS s H Pc As)
    (hg : g.method = m) (hn : As.length = n) (hsize : g.locals.size = nL) (hstack : g.stack = As.reverse ++ rest) (hW : 2 * g.monitorRoom + (rest.map fun v => v.category).sum ≤ 8) (hdg : decode cc g.pc = .ok (.invokestatic index, 3)) (hf : cells + mc ≤ R.cells ∧ slots + ms ≤ R.slots) :
    vx_Run p l e R s m args below meth c H locs cells slots mc ms g rest (Qc As.toArray) XC free := by
  obtain ⟨⟨hrc, hrs, hfr, hlo, hws, hcw⟩, hcode, hini, hy, hlen, hl, hstt⟩ := cw
  have hK : vx_Back l R p e below s args y 3 8 (PreOf R mc ms Pc) (PostOf Qc mc ms free) (vx_Post XC mc ms free) := vx_backW (hh := hh) (bytes := bytes) (maxL := maxL) (ret := ret) hM hp.1 hrc hrs hfr hlo hws hcw (fun a' U hW => word_at hW (Or.inl (by first | rfl | simp [Cond.onTables, Cond.keeps, Cond.steady])) hini)
  obtain ⟨hx, hb, hml, ho, -⟩ := S
  intro T hT X
  rcases vx_callSX X hx (hh := hh) (bytes := bytes) (maxL := maxL) (ret := ret) ho hl hstt hini hcode hy hK hg (hsize.trans hml.symm) (argsL := As) (rest := rest) (fun sig h => hn.trans (hlen sig h)) hstack hW (by rw [hb]; exact hdg)
    (fun vm₁ hW₁ => ⟨hf.1, hf.2, hp.2 (T.setVm vm₁) hT hW₁⟩) with ⟨v, vm₁, ⟨U', l2, c2, s2⟩, hW₁, X', ⟨g', mk, t, L, e1, e2, hq, h1, hL, h2, h3⟩, st⟩ | ⟨q, vm₁, ⟨U', l2, c2, s2⟩, hW₁, X', ⟨g', mk, t, L, E, ce, e1, e2, hq, hce, hcv, hcl, h1, hL, h2, h3⟩, st⟩
  · dsimp only [Pt.U, Pt.locs, Pt.cells, Pt.slots] at X' e1 e2 h1 h2 h3 st
    subst h1; subst h2; subst h3
    exact Or.inl ⟨v, (T.setVm vm₁).calling g' mk As.toArray, t, U', L, hT, X', hL, e1, e2, hq, st⟩
  · dsimp only [Pt.U, Pt.locs, Pt.cells, Pt.slots] at X' e1 e2 h1 h2 h3 st hcl
    subst h1; subst h2; subst h3
    exact Or.inr ⟨q, (T.setVm vm₁).calling g' mk As.toArray, t, U', L, E, ce, hT, X', hL, e1, e2, hq, hce, hcv, vx_cls hW₁ hcl, st⟩
end
end VXH
theorem vx_ofWH {l : Launch} {y : MethodName} {ws ws' : List Cond} {rm : Room} {Pc : Array Value → State → Prop} {Qc : Array Value → State → Outcome → State → Prop} {XC : String → State → State → Prop} {mc ms : Nat} {free : Addr → Prop} {cc : ByteArray} {maxL : Nat} {ret : Option FieldType} {hh : List (Nat × Nat × Nat × Nat)}
    (hy : plainName y.cls = true) (hw : ws = Cond.codeWith y cc maxL ret hh :: ws')
    (body : ∀ p e s m args below meth c s₁, BodyLoose p l y (headSpec ws rm) cc maxL ret e s m args below meth c s₁ → c.maxLocals = maxL → Pc args s →
      W p l e (headSpec ws rm).room s m args below meth c s.heap [] 0 0 (vx_MQ below Qc XC args s mc ms free) (entryFrame m args maxL)) : vx_Met l y ws rm Pc Qc XC mc ms free := by
  refine MetFree.of_bodyS (code := cc) (maxLocals := maxL) (ret := ret) hy ?_ ?_
  · intro args s m h hn
    obtain ⟨m9, meth, c, hn9, h1, h2, h3, h4, -, h5, h6, -⟩ := Cond.codeWith_spec (atoms_spec (ws := ws) h _ (by rw [hw]; exact List.mem_cons_self))
    cases hn.symm.trans hn9
    exact ⟨meth, c, h1, h2, h3, h4, h5, h6⟩
  · intro p e s m args below meth c s₁ B hml hP _
    have hh0 : s₁.heap = s.heap := by rw [B.state]; rfl
    obtain ⟨t, a1, o, b1, b2, b3⟩ := body p e s m args below meth c s₁ B hml hP s₁ hh0 (Stand.of_body B)
    exact ⟨t, o, a1, b1, b2, b3⟩
/-! ===== END ===== -/
end
section
/-! ===== BEGIN printed: names, fields, word lists, decode rows ===== -/
def RX0 : String := "Steamfield$Field"
def TX0 : u_T := fun k => match k with
  | 0 => ("Steamfield$Field", "month", "I", false)
  | 1 => ("Steamfield$Field", "rainfall", "I", false)
  | 2 => ("Steamfield$Field", "ground", "LSteamfield$Ground;", true)
  | 3 => ("Steamfield$Field", "wells", "LSteamfield$Wells;", true)
  | 4 => ("Steamfield$Field", "uses", "LSteamfield$Uses;", true)
  | 5 => ("Steamfield$Field", "springs", "LSteamfield$Springs;", true)
  | 6 => ("Steamfield$Field", "quakes", "LSteamfield$Quakes;", true)
  | 7 => ("Steamfield$Field", "sums", "[J", true)
  | 8 => ("Steamfield$Field", "brine", "J", false)
  | 9 => ("Steamfield$Field", "brineHeat", "J", false)
  | _ => ("Steamfield$Field", "brineDegrees", "J", false)
def tyX0 : Nat → FieldType := fun k => match k with
  | 0 => .int
  | 1 => .int
  | 2 => .object "Steamfield$Ground"
  | 3 => .object "Steamfield$Wells"
  | 4 => .object "Steamfield$Uses"
  | 5 => .object "Steamfield$Springs"
  | 6 => .object "Steamfield$Quakes"
  | 7 => .array .long
  | 8 => .long
  | 9 => .long
  | _ => .long
abbrev wsX00 : List Cond := u_ws RX0 TX0 11
theorem nmX0 : ∀ a, a < 11 → ∀ b, b < 11 → a ≠ b → (TX0 a).2.1 ≠ (TX0 b).2.1 := by decide +kernel
theorem tyX0_ok : ∀ k, k < 11 → parseFieldDescriptor (TX0 k).2.2.1 = some (tyX0 k) := by decide +kernel
abbrev cX0_init : ByteArray := prog_2_method_1_code
def yX0_init : MethodName := ⟨RX0, "<init>", "()V"⟩
abbrev cX0_copy : ByteArray := prog_2_method_2_code
def yX0_copy : MethodName := ⟨RX0, "copy", "(LSteamfield$Field;)V"⟩
abbrev cX0_passMonth : ByteArray := prog_2_method_3_code
def yX0_passMonth : MethodName := ⟨RX0, "passMonth", "()V"⟩
abbrev cX0_shutWells : ByteArray := prog_2_method_4_code
def yX0_shutWells : MethodName := ⟨RX0, "shutWells", "()V"⟩
abbrev cX0_mustShut : ByteArray := prog_2_method_5_code
def yX0_mustShut : MethodName := ⟨RX0, "mustShut", "(I)Z"⟩
abbrev cX0_drawFromWells : ByteArray := prog_2_method_6_code
def yX0_drawFromWells : MethodName := ⟨RX0, "drawFromWells", "()V"⟩
abbrev cX0_draw : ByteArray := prog_2_method_7_code
def yX0_draw : MethodName := ⟨RX0, "draw", "(I)V"⟩
abbrev cX0_sellHeat : ByteArray := prog_2_method_8_code
def yX0_sellHeat : MethodName := ⟨RX0, "sellHeat", "()V"⟩
abbrev cX0_giveBack : ByteArray := prog_2_method_9_code
def yX0_giveBack : MethodName := ⟨RX0, "giveBack", "()V"⟩
abbrev cX0_part : ByteArray := prog_2_method_10_code
def yX0_part : MethodName := ⟨RX0, "part", "(IJ)J"⟩
abbrev cX0_shake : ByteArray := prog_2_method_11_code
def yX0_shake : MethodName := ⟨RX0, "shake", "()V"⟩
abbrev cX0_rainAndWarm : ByteArray := prog_2_method_12_code
def yX0_rainAndWarm : MethodName := ⟨RX0, "rainAndWarm", "()V"⟩
abbrev cX0_feedSprings : ByteArray := prog_2_method_13_code
def yX0_feedSprings : MethodName := ⟨RX0, "feedSprings", "()V"⟩
def RX1 : String := "Steamfield$Ground"
def TX1 : u_T := fun k => match k with
  | 0 => ("Steamfield$Ground", "water", "[J", true)
  | 1 => ("Steamfield$Ground", "heat", "[J", true)
  | 2 => ("Steamfield$Ground", "tracer", "[J", true)
  | 3 => ("Steamfield$Ground", "strain", "[J", true)
  | 4 => ("Steamfield$Ground", "widthBeside", "[I", true)
  | 5 => ("Steamfield$Ground", "widthBelow", "[I", true)
  | 6 => ("Steamfield$Ground", "waterAhead", "[J", true)
  | 7 => ("Steamfield$Ground", "degreesAhead", "[J", true)
  | _ => ("Steamfield$Ground", "tracerAhead", "[J", true)
def tyX1 : Nat → FieldType := fun k => match k with
  | 0 => .array .long
  | 1 => .array .long
  | 2 => .array .long
  | 3 => .array .long
  | 4 => .array .int
  | 5 => .array .int
  | 6 => .array .long
  | 7 => .array .long
  | _ => .array .long
abbrev wsX10 : List Cond := u_ws RX1 TX1 9
theorem nmX1 : ∀ a, a < 9 → ∀ b, b < 9 → a ≠ b → (TX1 a).2.1 ≠ (TX1 b).2.1 := by decide +kernel
theorem tyX1_ok : ∀ k, k < 9 → parseFieldDescriptor (TX1 k).2.2.1 = some (tyX1 k) := by decide +kernel
abbrev cX1_init : ByteArray := prog_3_method_1_code
def yX1_init : MethodName := ⟨RX1, "<init>", "()V"⟩
abbrev cX1_copy : ByteArray := prog_3_method_2_code
def yX1_copy : MethodName := ⟨RX1, "copy", "(LSteamfield$Ground;)V"⟩
abbrev cX1_fill : ByteArray := prog_3_method_3_code
def yX1_fill : MethodName := ⟨RX1, "fill", "(III)V"⟩
abbrev cX1_setWidth : ByteArray := prog_3_method_4_code
def yX1_setWidth : MethodName := ⟨RX1, "setWidth", "(III)I"⟩
abbrev cX1_tell : ByteArray := prog_3_method_5_code
def yX1_tell : MethodName := ⟨RX1, "tell", "(II)J"⟩
abbrev cX1_allWater : ByteArray := prog_3_method_6_code
def yX1_allWater : MethodName := ⟨RX1, "allWater", "()J"⟩
abbrev cX1_degrees : ByteArray := prog_3_method_7_code
def yX1_degrees : MethodName := ⟨RX1, "degrees", "(I)J"⟩
abbrev cX1_light : ByteArray := prog_3_method_8_code
def yX1_light : MethodName := ⟨RX1, "light", "(I)I"⟩
abbrev cX1_give : ByteArray := prog_3_method_9_code
def yX1_give : MethodName := ⟨RX1, "give", "(IJ)J"⟩
abbrev cX1_take : ByteArray := prog_3_method_10_code
def yX1_take : MethodName := ⟨RX1, "take", "(IJJ)V"⟩
abbrev cX1_flowThroughCracks : ByteArray := prog_3_method_11_code
def yX1_flowThroughCracks : MethodName := ⟨RX1, "flowThroughCracks", "()V"⟩
abbrev cX1_flowBetween : ByteArray := prog_3_method_12_code
def yX1_flowBetween : MethodName := ⟨RX1, "flowBetween", "(III)V"⟩
abbrev cX1_flow : ByteArray := prog_3_method_13_code
def yX1_flow : MethodName := ⟨RX1, "flow", "(III)V"⟩
abbrev cX1_warm : ByteArray := prog_3_method_14_code
def yX1_warm : MethodName := ⟨RX1, "warm", "(I)V"⟩
def RX2 : String := "Steamfield$Quakes"
def TX2 : u_T := fun k => match k with
  | 0 => ("Steamfield$Quakes", "all", "I", false)
  | 1 => ("Steamfield$Quakes", "months", "[I", true)
  | 2 => ("Steamfield$Quakes", "blocks", "[I", true)
  | _ => ("Steamfield$Quakes", "sizes", "[I", true)
def tyX2 : Nat → FieldType := fun k => match k with
  | 0 => .int
  | 1 => .array .int
  | 2 => .array .int
  | _ => .array .int
abbrev wsX20 : List Cond := u_ws RX2 TX2 4
theorem nmX2 : ∀ a, a < 4 → ∀ b, b < 4 → a ≠ b → (TX2 a).2.1 ≠ (TX2 b).2.1 := by decide +kernel
theorem tyX2_ok : ∀ k, k < 4 → parseFieldDescriptor (TX2 k).2.2.1 = some (tyX2 k) := by decide +kernel
abbrev cX2_init : ByteArray := prog_4_method_1_code
def yX2_init : MethodName := ⟨RX2, "<init>", "()V"⟩
abbrev cX2_kept : ByteArray := prog_4_method_2_code
def yX2_kept : MethodName := ⟨RX2, "kept", "()I"⟩
abbrev cX2_add : ByteArray := prog_4_method_3_code
def yX2_add : MethodName := ⟨RX2, "add", "(III)V"⟩
abbrev cX2_copy : ByteArray := prog_4_method_4_code
def yX2_copy : MethodName := ⟨RX2, "copy", "(LSteamfield$Quakes;)V"⟩
abbrev cX2_tell : ByteArray := prog_4_method_5_code
def yX2_tell : MethodName := ⟨RX2, "tell", "(II)I"⟩
def RX3 : String := "Steamfield$Springs"
def TX3 : u_T := fun k => match k with
  | 0 => ("Steamfield$Springs", "size", "I", false)
  | 1 => ("Steamfield$Springs", "place", "[I", true)
  | 2 => ("Steamfield$Springs", "level", "[I", true)
  | 3 => ("Steamfield$Springs", "promised", "[I", true)
  | 4 => ("Steamfield$Springs", "gave", "[J", true)
  | 5 => ("Steamfield$Springs", "dryMonths", "[I", true)
  | _ => ("Steamfield$Springs", "accounts", "[J", true)
def tyX3 : Nat → FieldType := fun k => match k with
  | 0 => .int
  | 1 => .array .int
  | 2 => .array .int
  | 3 => .array .int
  | 4 => .array .long
  | 5 => .array .int
  | _ => .array .long
abbrev wsX30 : List Cond := u_ws RX3 TX3 7
theorem nmX3 : ∀ a, a < 7 → ∀ b, b < 7 → a ≠ b → (TX3 a).2.1 ≠ (TX3 b).2.1 := by decide +kernel
theorem tyX3_ok : ∀ k, k < 7 → parseFieldDescriptor (TX3 k).2.2.1 = some (tyX3 k) := by decide +kernel
abbrev cX3_init : ByteArray := prog_5_method_1_code
def yX3_init : MethodName := ⟨RX3, "<init>", "()V"⟩
abbrev cX3_add : ByteArray := prog_5_method_2_code
def yX3_add : MethodName := ⟨RX3, "add", "(III)I"⟩
abbrev cX3_copy : ByteArray := prog_5_method_3_code
def yX3_copy : MethodName := ⟨RX3, "copy", "(LSteamfield$Springs;)V"⟩
abbrev cX3_tell : ByteArray := prog_5_method_4_code
def yX3_tell : MethodName := ⟨RX3, "tell", "(II)J"⟩
abbrev cX3_toBlame : ByteArray := prog_5_method_5_code
def yX3_toBlame : MethodName := ⟨RX3, "toBlame", "(I)I"⟩
abbrev cX3_isNear : ByteArray := prog_5_method_6_code
def yX3_isNear : MethodName := ⟨RX3, "isNear", "(II)Z"⟩
abbrev cX3_charge : ByteArray := prog_5_method_7_code
def yX3_charge : MethodName := ⟨RX3, "charge", "(IIJ)V"⟩
abbrev cX3_note : ByteArray := prog_5_method_8_code
def yX3_note : MethodName := ⟨RX3, "note", "(IJ)V"⟩
abbrev cX3_clearAccounts : ByteArray := prog_5_method_9_code
def yX3_clearAccounts : MethodName := ⟨RX3, "clearAccounts", "(I)V"⟩
def RX4 : String := "Steamfield$Uses"
def TX4 : u_T := fun k => match k with
  | 0 => ("Steamfield$Uses", "size", "I", false)
  | 1 => ("Steamfield$Uses", "least", "[I", true)
  | _ => ("Steamfield$Uses", "drop", "[I", true)
def tyX4 : Nat → FieldType := fun k => match k with
  | 0 => .int
  | 1 => .array .int
  | _ => .array .int
abbrev wsX40 : List Cond := u_ws RX4 TX4 3
theorem nmX4 : ∀ a, a < 3 → ∀ b, b < 3 → a ≠ b → (TX4 a).2.1 ≠ (TX4 b).2.1 := by decide +kernel
theorem tyX4_ok : ∀ k, k < 3 → parseFieldDescriptor (TX4 k).2.2.1 = some (tyX4 k) := by decide +kernel
abbrev cX4_init : ByteArray := prog_6_method_1_code
def yX4_init : MethodName := ⟨RX4, "<init>", "()V"⟩
abbrev cX4_add : ByteArray := prog_6_method_2_code
def yX4_add : MethodName := ⟨RX4, "add", "(II)I"⟩
abbrev cX4_copy : ByteArray := prog_6_method_3_code
def yX4_copy : MethodName := ⟨RX4, "copy", "(LSteamfield$Uses;)V"⟩
def RX5 : String := "Steamfield$Wells"
def TX5 : u_T := fun k => match k with
  | 0 => ("Steamfield$Wells", "size", "I", false)
  | 1 => ("Steamfield$Wells", "place", "[I", true)
  | 2 => ("Steamfield$Wells", "returns", "[Z", true)
  | 3 => ("Steamfield$Wells", "setting", "[I", true)
  | 4 => ("Steamfield$Wells", "scale", "[I", true)
  | 5 => ("Steamfield$Wells", "moved", "[J", true)
  | 6 => ("Steamfield$Wells", "shut", "[Z", true)
  | 7 => ("Steamfield$Wells", "found", "[J", true)
  | _ => ("Steamfield$Wells", "foundFirst", "[I", true)
def tyX5 : Nat → FieldType := fun k => match k with
  | 0 => .int
  | 1 => .array .int
  | 2 => .array .boolean
  | 3 => .array .int
  | 4 => .array .int
  | 5 => .array .long
  | 6 => .array .boolean
  | 7 => .array .long
  | _ => .array .int
abbrev wsX50 : List Cond := u_ws RX5 TX5 9
theorem nmX5 : ∀ a, a < 9 → ∀ b, b < 9 → a ≠ b → (TX5 a).2.1 ≠ (TX5 b).2.1 := by decide +kernel
theorem tyX5_ok : ∀ k, k < 9 → parseFieldDescriptor (TX5 k).2.2.1 = some (tyX5 k) := by decide +kernel
abbrev cX5_init : ByteArray := prog_7_method_1_code
def yX5_init : MethodName := ⟨RX5, "<init>", "()V"⟩
abbrev cX5_drill : ByteArray := prog_7_method_2_code
def yX5_drill : MethodName := ⟨RX5, "drill", "(IZ)I"⟩
abbrev cX5_copy : ByteArray := prog_7_method_3_code
def yX5_copy : MethodName := ⟨RX5, "copy", "(LSteamfield$Wells;)V"⟩
abbrev cX5_tell : ByteArray := prog_7_method_4_code
def yX5_tell : MethodName := ⟨RX5, "tell", "(II)J"⟩
abbrev cX5_isDrawing : ByteArray := prog_7_method_5_code
def yX5_isDrawing : MethodName := ⟨RX5, "isDrawing", "(I)Z"⟩
abbrev cX5_isReturning : ByteArray := prog_7_method_6_code
def yX5_isReturning : MethodName := ⟨RX5, "isReturning", "(I)Z"⟩
abbrev cX5_wouldDraw : ByteArray := prog_7_method_7_code
def yX5_wouldDraw : MethodName := ⟨RX5, "wouldDraw", "(I)J"⟩
abbrev cX5_growScale : ByteArray := prog_7_method_8_code
def yX5_growScale : MethodName := ⟨RX5, "growScale", "(IJ)V"⟩
abbrev cX5_find : ByteArray := prog_7_method_9_code
def yX5_find : MethodName := ⟨RX5, "find", "(IJI)V"⟩
abbrev cX5_allWeight : ByteArray := prog_7_method_10_code
def yX5_allWeight : MethodName := ⟨RX5, "allWeight", "()J"⟩
def RX6 : String := "Steamfield"
def TX6 : u_T := fun k => match k with
  | 0 => ("Steamfield", "now", "LSteamfield$Field;", true)
  | _ => ("Steamfield", "later", "LSteamfield$Field;", true)
def tyX6 : Nat → FieldType := fun k => match k with
  | 0 => .object "Steamfield$Field"
  | _ => .object "Steamfield$Field"
abbrev wsX60 : List Cond := u_ws RX6 TX6 2
theorem nmX6 : ∀ a, a < 2 → ∀ b, b < 2 → a ≠ b → (TX6 a).2.1 ≠ (TX6 b).2.1 := by decide +kernel
theorem tyX6_ok : ∀ k, k < 2 → parseFieldDescriptor (TX6 k).2.2.1 = some (tyX6 k) := by decide +kernel
abbrev cX6_init : ByteArray := prog_1_method_1_code
def yX6_init : MethodName := ⟨RX6, "<init>", "()V"⟩
abbrev cX6_block : ByteArray := prog_1_method_2_code
def yX6_block : MethodName := ⟨RX6, "block", "(III)I"⟩
abbrev cX6_crack : ByteArray := prog_1_method_3_code
def yX6_crack : MethodName := ⟨RX6, "crack", "(III)I"⟩
abbrev cX6_rain : ByteArray := prog_1_method_4_code
def yX6_rain : MethodName := ⟨RX6, "rain", "(I)I"⟩
abbrev cX6_well : ByteArray := prog_1_method_5_code
def yX6_well : MethodName := ⟨RX6, "well", "(IZ)I"⟩
abbrev cX6_open : ByteArray := prog_1_method_6_code
def yX6_open : MethodName := ⟨RX6, "open", "(II)I"⟩
abbrev cX6_clean : ByteArray := prog_1_method_7_code
def yX6_clean : MethodName := ⟨RX6, "clean", "(I)I"⟩
abbrev cX6_use : ByteArray := prog_1_method_8_code
def yX6_use : MethodName := ⟨RX6, "use", "(II)I"⟩
abbrev cX6_spring : ByteArray := prog_1_method_9_code
def yX6_spring : MethodName := ⟨RX6, "spring", "(III)I"⟩
abbrev cX6_promise : ByteArray := prog_1_method_10_code
def yX6_promise : MethodName := ⟨RX6, "promise", "(II)I"⟩
abbrev cX6_tracer : ByteArray := prog_1_method_11_code
def yX6_tracer : MethodName := ⟨RX6, "tracer", "(II)J"⟩
abbrev cX6_pass : ByteArray := prog_1_method_12_code
def yX6_pass : MethodName := ⟨RX6, "pass", "(I)I"⟩
abbrev cX6_ofBlock : ByteArray := prog_1_method_13_code
def yX6_ofBlock : MethodName := ⟨RX6, "ofBlock", "(II)J"⟩
abbrev cX6_would : ByteArray := prog_1_method_14_code
def yX6_would : MethodName := ⟨RX6, "would", "(III)J"⟩
abbrev cX6_ofWell : ByteArray := prog_1_method_15_code
def yX6_ofWell : MethodName := ⟨RX6, "ofWell", "(II)J"⟩
abbrev cX6_ofSpring : ByteArray := prog_1_method_16_code
def yX6_ofSpring : MethodName := ⟨RX6, "ofSpring", "(II)J"⟩
abbrev cX6_quake : ByteArray := prog_1_method_17_code
def yX6_quake : MethodName := ⟨RX6, "quake", "(II)I"⟩
abbrev cX6_count : ByteArray := prog_1_method_18_code
def yX6_count : MethodName := ⟨RX6, "count", "(I)I"⟩
abbrev cX6_sum : ByteArray := prog_1_method_19_code
def yX6_sum : MethodName := ⟨RX6, "sum", "(I)J"⟩
abbrev cX6_share : ByteArray := prog_1_method_20_code
def yX6_share : MethodName := ⟨RX6, "share", "()I"⟩
abbrev cX6_requireIndex : ByteArray := prog_1_method_21_code
def yX6_requireIndex : MethodName := ⟨RX6, "requireIndex", "(II)V"⟩
abbrev cX6_requireRange : ByteArray := prog_1_method_22_code
def yX6_requireRange : MethodName := ⟨RX6, "requireRange", "(III)V"⟩
abbrev cX6_requireArgument : ByteArray := prog_1_method_23_code
def yX6_requireArgument : MethodName := ⟨RX6, "requireArgument", "(Z)V"⟩
abbrev cX6_requireState : ByteArray := prog_1_method_24_code
def yX6_requireState : MethodName := ⟨RX6, "requireState", "(Z)V"⟩
abbrev cX6_areNeighbours : ByteArray := prog_1_method_25_code
def yX6_areNeighbours : MethodName := ⟨RX6, "areNeighbours", "(II)Z"⟩
abbrev cX6_bitsOf : ByteArray := prog_1_method_26_code
def yX6_bitsOf : MethodName := ⟨RX6, "bitsOf", "(F)I"⟩
def RX7 : String := "SteamfieldModel"
def TX7 : u_T := fun k => match k with
  | 0 => ("SteamfieldModel", "thrown", "I", false)
  | 1 => ("SteamfieldModel", "a", "[J", true)
  | 2 => ("SteamfieldModel", "kept", "[J", true)
  | 3 => ("SteamfieldModel", "right", "[I", true)
  | 4 => ("SteamfieldModel", "down", "[I", true)
  | 5 => ("SteamfieldModel", "rain", "I", false)
  | 6 => ("SteamfieldModel", "wells", "I", false)
  | 7 => ("SteamfieldModel", "wellIn", "[I", true)
  | 8 => ("SteamfieldModel", "isReturn", "[Z", true)
  | 9 => ("SteamfieldModel", "much", "[I", true)
  | 10 => ("SteamfieldModel", "part", "[J", true)
  | 11 => ("SteamfieldModel", "uses", "I", false)
  | 12 => ("SteamfieldModel", "least", "[I", true)
  | 13 => ("SteamfieldModel", "drop", "[I", true)
  | 14 => ("SteamfieldModel", "springs", "I", false)
  | 15 => ("SteamfieldModel", "springIn", "[I", true)
  | 16 => ("SteamfieldModel", "level", "[I", true)
  | 17 => ("SteamfieldModel", "promise", "[I", true)
  | 18 => ("SteamfieldModel", "comesWater", "[J", true)
  | 19 => ("SteamfieldModel", "comesHeat", "[J", true)
  | _ => ("SteamfieldModel", "comesTracer", "[J", true)
def tyX7 : Nat → FieldType := fun k => match k with
  | 0 => .int
  | 1 => .array .long
  | 2 => .array .long
  | 3 => .array .int
  | 4 => .array .int
  | 5 => .int
  | 6 => .int
  | 7 => .array .int
  | 8 => .array .boolean
  | 9 => .array .int
  | 10 => .array .long
  | 11 => .int
  | 12 => .array .int
  | 13 => .array .int
  | 14 => .int
  | 15 => .array .int
  | 16 => .array .int
  | 17 => .array .int
  | 18 => .array .long
  | 19 => .array .long
  | _ => .array .long
abbrev wsX70 : List Cond := u_ws RX7 TX7 21
theorem nmX7 : ∀ a, a < 21 → ∀ b, b < 21 → a ≠ b → (TX7 a).2.1 ≠ (TX7 b).2.1 := by decide +kernel
theorem tyX7_ok : ∀ k, k < 21 → parseFieldDescriptor (TX7 k).2.2.1 = some (tyX7 k) := by decide +kernel
abbrev cX7_init : ByteArray := prog_9_method_1_code
def yX7_init : MethodName := ⟨RX7, "<init>", "()V"⟩
abbrev cX7_thrown : ByteArray := prog_9_method_2_code
def yX7_thrown : MethodName := ⟨RX7, "thrown", "()I"⟩
abbrev cX7_in : ByteArray := prog_9_method_3_code
def yX7_in : MethodName := ⟨RX7, "in", "(III)Z"⟩
abbrev cX7_isBlock : ByteArray := prog_9_method_4_code
def yX7_isBlock : MethodName := ⟨RX7, "isBlock", "(I)Z"⟩
abbrev cX7_isWell : ByteArray := prog_9_method_5_code
def yX7_isWell : MethodName := ⟨RX7, "isWell", "(I)Z"⟩
abbrev cX7_isSpring : ByteArray := prog_9_method_6_code
def yX7_isSpring : MethodName := ⟨RX7, "isSpring", "(I)Z"⟩
abbrev cX7_lesser : ByteArray := prog_9_method_7_code
def yX7_lesser : MethodName := ⟨RX7, "lesser", "(JJ)J"⟩
abbrev cX7_isRight : ByteArray := prog_9_method_8_code
def yX7_isRight : MethodName := ⟨RX7, "isRight", "(II)Z"⟩
abbrev cX7_areNeighbours : ByteArray := prog_9_method_9_code
def yX7_areNeighbours : MethodName := ⟨RX7, "areNeighbours", "(II)Z"⟩
abbrev cX7_isNear : ByteArray := prog_9_method_10_code
def yX7_isNear : MethodName := ⟨RX7, "isNear", "(II)Z"⟩
abbrev cX7_degrees : ByteArray := prog_9_method_11_code
def yX7_degrees : MethodName := ⟨RX7, "degrees", "(I)J"⟩
abbrev cX7_light : ByteArray := prog_9_method_12_code
def yX7_light : MethodName := ⟨RX7, "light", "(I)I"⟩
abbrev cX7_block : ByteArray := prog_9_method_13_code
def yX7_block : MethodName := ⟨RX7, "block", "(III)I"⟩
abbrev cX7_crack : ByteArray := prog_9_method_14_code
def yX7_crack : MethodName := ⟨RX7, "crack", "(III)I"⟩
abbrev cX7_rain : ByteArray := prog_9_method_15_code
def yX7_rain : MethodName := ⟨RX7, "rain", "(I)I"⟩
abbrev cX7_well : ByteArray := prog_9_method_16_code
def yX7_well : MethodName := ⟨RX7, "well", "(IZ)I"⟩
abbrev cX7_open : ByteArray := prog_9_method_17_code
def yX7_open : MethodName := ⟨RX7, "open", "(II)I"⟩
abbrev cX7_clean : ByteArray := prog_9_method_18_code
def yX7_clean : MethodName := ⟨RX7, "clean", "(I)I"⟩
abbrev cX7_use : ByteArray := prog_9_method_19_code
def yX7_use : MethodName := ⟨RX7, "use", "(II)I"⟩
abbrev cX7_spring : ByteArray := prog_9_method_20_code
def yX7_spring : MethodName := ⟨RX7, "spring", "(III)I"⟩
abbrev cX7_promise : ByteArray := prog_9_method_21_code
def yX7_promise : MethodName := ⟨RX7, "promise", "(II)I"⟩
abbrev cX7_tracer : ByteArray := prog_9_method_22_code
def yX7_tracer : MethodName := ⟨RX7, "tracer", "(II)J"⟩
abbrev cX7_gives : ByteArray := prog_9_method_23_code
def yX7_gives : MethodName := ⟨RX7, "gives", "(IJ)J"⟩
abbrev cX7_isDryNear : ByteArray := prog_9_method_24_code
def yX7_isDryNear : MethodName := ⟨RX7, "isDryNear", "(I)Z"⟩
abbrev cX7_shuts : ByteArray := prog_9_method_25_code
def yX7_shuts : MethodName := ⟨RX7, "shuts", "()V"⟩
abbrev cX7_draws : ByteArray := prog_9_method_26_code
def yX7_draws : MethodName := ⟨RX7, "draws", "(I)J"⟩
abbrev cX7_returns : ByteArray := prog_9_method_27_code
def yX7_returns : MethodName := ⟨RX7, "returns", "(JJ)V"⟩
abbrev cX7_quakes : ByteArray := prog_9_method_28_code
def yX7_quakes : MethodName := ⟨RX7, "quakes", "(I)V"⟩
abbrev cX7_leaks : ByteArray := prog_9_method_29_code
def yX7_leaks : MethodName := ⟨RX7, "leaks", "(III)V"⟩
abbrev cX7_cracks : ByteArray := prog_9_method_30_code
def yX7_cracks : MethodName := ⟨RX7, "cracks", "()V"⟩
abbrev cX7_warms : ByteArray := prog_9_method_31_code
def yX7_warms : MethodName := ⟨RX7, "warms", "(I)V"⟩
abbrev cX7_springs : ByteArray := prog_9_method_32_code
def yX7_springs : MethodName := ⟨RX7, "springs", "(I)V"⟩
abbrev cX7_month : ByteArray := prog_9_method_33_code
def yX7_month : MethodName := ⟨RX7, "month", "()V"⟩
abbrev cX7_pass : ByteArray := prog_9_method_34_code
def yX7_pass : MethodName := ⟨RX7, "pass", "(I)I"⟩
abbrev cX7_told : ByteArray := prog_9_method_35_code
def yX7_told : MethodName := ⟨RX7, "told", "(II)J"⟩
abbrev cX7_ofBlock : ByteArray := prog_9_method_36_code
def yX7_ofBlock : MethodName := ⟨RX7, "ofBlock", "(II)J"⟩
abbrev cX7_would : ByteArray := prog_9_method_37_code
def yX7_would : MethodName := ⟨RX7, "would", "(III)J"⟩
abbrev cX7_ofWell : ByteArray := prog_9_method_38_code
def yX7_ofWell : MethodName := ⟨RX7, "ofWell", "(II)J"⟩
abbrev cX7_toBlame : ByteArray := prog_9_method_39_code
def yX7_toBlame : MethodName := ⟨RX7, "toBlame", "(I)I"⟩
abbrev cX7_ofSpring : ByteArray := prog_9_method_40_code
def yX7_ofSpring : MethodName := ⟨RX7, "ofSpring", "(II)J"⟩
abbrev cX7_quake : ByteArray := prog_9_method_41_code
def yX7_quake : MethodName := ⟨RX7, "quake", "(II)I"⟩
abbrev cX7_count : ByteArray := prog_9_method_42_code
def yX7_count : MethodName := ⟨RX7, "count", "(I)I"⟩
abbrev cX7_sum : ByteArray := prog_9_method_43_code
def yX7_sum : MethodName := ⟨RX7, "sum", "(I)J"⟩
abbrev cX7_share : ByteArray := prog_9_method_44_code
def yX7_share : MethodName := ⟨RX7, "share", "()I"⟩
def RJ9 : String := "java/lang/Math"
def TJ9 : u_T := fun k => match k with
  | _ => ("", "", "", false)
def tyJ9 : Nat → FieldType := fun k => match k with
  | _ => .int
abbrev wsJ90 : List Cond := u_ws RJ9 TJ9 0
theorem nmJ9 : ∀ a, a < 0 → ∀ b, b < 0 → a ≠ b → (TJ9 a).2.1 ≠ (TJ9 b).2.1 := by decide +kernel
theorem tyJ9_ok : ∀ k, k < 0 → parseFieldDescriptor (TJ9 k).2.2.1 = some (tyJ9 k) := by decide +kernel
abbrev cJ9_max_f86c9 : ByteArray := prog_14_method_66_code
def yJ9_max_f86c9 : MethodName := ⟨RJ9, "max", "(JJ)J"⟩
abbrev cJ9_min_7cf53 : ByteArray := prog_14_method_69_code
def yJ9_min_7cf53 : MethodName := ⟨RJ9, "min", "(II)I"⟩
abbrev cJ9_min_f86c9 : ByteArray := prog_14_method_70_code
def yJ9_min_f86c9 : MethodName := ⟨RJ9, "min", "(JJ)J"⟩
def RJ0 : String := "java/lang/String"
def TJ0 : u_T := fun k => match k with
  | _ => ("", "", "", false)
def tyJ0 : Nat → FieldType := fun k => match k with
  | _ => .int
abbrev wsJ00 : List Cond := u_ws RJ0 TJ0 0
theorem nmJ0 : ∀ a, a < 0 → ∀ b, b < 0 → a ≠ b → (TJ0 a).2.1 ≠ (TJ0 b).2.1 := by decide +kernel
theorem tyJ0_ok : ∀ k, k < 0 → parseFieldDescriptor (TJ0 k).2.2.1 = some (tyJ0 k) := by decide +kernel
def RL : String := "SteamfieldLaw"
abbrev cL_block : ByteArray := method_3_code
def yL_block : MethodName := ⟨RL, "block", "(LSteamfield;III[J)I"⟩
abbrev cL_crack : ByteArray := method_4_code
def yL_crack : MethodName := ⟨RL, "crack", "(LSteamfield;III[J)I"⟩
abbrev cL_rain : ByteArray := method_5_code
def yL_rain : MethodName := ⟨RL, "rain", "(LSteamfield;I[J)I"⟩
abbrev cL_well : ByteArray := method_6_code
def yL_well : MethodName := ⟨RL, "well", "(LSteamfield;IZ[J)I"⟩
abbrev cL_open : ByteArray := method_7_code
def yL_open : MethodName := ⟨RL, "open", "(LSteamfield;II[J)I"⟩
abbrev cL_clean : ByteArray := method_8_code
def yL_clean : MethodName := ⟨RL, "clean", "(LSteamfield;I[J)I"⟩
abbrev cL_use : ByteArray := method_9_code
def yL_use : MethodName := ⟨RL, "use", "(LSteamfield;II[J)I"⟩
abbrev cL_spring : ByteArray := method_10_code
def yL_spring : MethodName := ⟨RL, "spring", "(LSteamfield;III[J)I"⟩
abbrev cL_promise : ByteArray := method_11_code
def yL_promise : MethodName := ⟨RL, "promise", "(LSteamfield;II[J)I"⟩
abbrev cL_tracer : ByteArray := method_12_code
def yL_tracer : MethodName := ⟨RL, "tracer", "(LSteamfield;II[J)I"⟩
abbrev cL_pass : ByteArray := method_13_code
def yL_pass : MethodName := ⟨RL, "pass", "(LSteamfield;I[J)I"⟩
abbrev cL_ofBlock : ByteArray := method_14_code
def yL_ofBlock : MethodName := ⟨RL, "ofBlock", "(LSteamfield;II[J)I"⟩
abbrev cL_would : ByteArray := method_15_code
def yL_would : MethodName := ⟨RL, "would", "(LSteamfield;III[J)I"⟩
abbrev cL_ofWell : ByteArray := method_16_code
def yL_ofWell : MethodName := ⟨RL, "ofWell", "(LSteamfield;II[J)I"⟩
abbrev cL_ofSpring : ByteArray := method_17_code
def yL_ofSpring : MethodName := ⟨RL, "ofSpring", "(LSteamfield;II[J)I"⟩
abbrev cL_quake : ByteArray := method_18_code
def yL_quake : MethodName := ⟨RL, "quake", "(LSteamfield;II[J)I"⟩
abbrev cL_count : ByteArray := method_19_code
def yL_count : MethodName := ⟨RL, "count", "(LSteamfield;I[J)I"⟩
abbrev cL_sum : ByteArray := method_20_code
def yL_sum : MethodName := ⟨RL, "sum", "(LSteamfield;I[J)I"⟩
abbrev cL_law : ByteArray := code
def yL_law : MethodName := ⟨RL, "law", "([I)Z"⟩
def wsJ9_max_f86c9 : List Cond := .code yJ9_max_f86c9 cJ9_max_f86c9 4 (some .long) :: ([])
def wsJ9_min_7cf53 : List Cond := .code yJ9_min_7cf53 cJ9_min_7cf53 2 (some .int) :: ([])
def wsJ9_min_f86c9 : List Cond := .code yJ9_min_f86c9 cJ9_min_f86c9 4 (some .long) :: ([])
def wsL_law0_r1 : List Cond := [Cond.classLink RL 8 RX6, Cond.instantiable RX6 2, Cond.initialized RX6, Cond.classLink RL 77 RX7, Cond.instantiable RX7 21, Cond.initialized RX7, Cond.arrayClass .long, Cond.methodLink RL 76 yX6_init, Cond.instanceMethod yX6_init, Cond.code yX6_init cX6_init 1 none, Cond.methodLink RX6 1 objectInit, Cond.instanceMethod objectInit, Cond.code objectInit ⟨#[0xb1]⟩ 1 none, Cond.classLink RX6 7 RX0, Cond.instantiable RX0 11, Cond.initialized RX0, Cond.fieldLink RX6 10 "Steamfield" "now" "LSteamfield$Field;", Cond.fieldLink RX6 16 "Steamfield" "later" "LSteamfield$Field;", Cond.instanceMethod yX0_init, Cond.code yX0_init cX0_init 1 none, Cond.methodLink RX0 3 objectInit, Cond.fieldLink RX0 9 "Steamfield$Field" "month" "I", Cond.fieldLink RX0 15 "Steamfield$Field" "rainfall" "I", Cond.classLink RX0 18 RX1]
def wsL_law0_r2 : List Cond := [Cond.instantiable RX1 9, Cond.initialized RX1, Cond.fieldLink RX0 21 "Steamfield$Field" "ground" "LSteamfield$Ground;", Cond.classLink RX0 25 RX5, Cond.instantiable RX5 9, Cond.initialized RX5, Cond.fieldLink RX0 28 "Steamfield$Field" "wells" "LSteamfield$Wells;", Cond.classLink RX0 32 RX4, Cond.instantiable RX4 3, Cond.initialized RX4, Cond.fieldLink RX0 35 "Steamfield$Field" "uses" "LSteamfield$Uses;", Cond.classLink RX0 39 RX3, Cond.instantiable RX3 7, Cond.initialized RX3, Cond.fieldLink RX0 42 "Steamfield$Field" "springs" "LSteamfield$Springs;", Cond.classLink RX0 46 RX2, Cond.instantiable RX2 4, Cond.initialized RX2, Cond.fieldLink RX0 49 "Steamfield$Field" "quakes" "LSteamfield$Quakes;", Cond.fieldLink RX0 53 "Steamfield$Field" "sums" "[J", Cond.fieldLink RX0 57 "Steamfield$Field" "brine" "J", Cond.fieldLink RX0 61 "Steamfield$Field" "brineHeat" "J", Cond.fieldLink RX0 64 "Steamfield$Field" "brineDegrees" "J", Cond.methodLink RX0 20 yX1_init]
def wsL_law0_r3 : List Cond := [Cond.instanceMethod yX1_init, Cond.code yX1_init cX1_init 2 none, Cond.methodLink RX1 3 objectInit, Cond.fieldLink RX1 9 "Steamfield$Ground" "water" "[J", Cond.fieldLink RX1 15 "Steamfield$Ground" "heat" "[J", Cond.fieldLink RX1 18 "Steamfield$Ground" "tracer" "[J", Cond.fieldLink RX1 21 "Steamfield$Ground" "strain" "[J", Cond.arrayClass .int, Cond.fieldLink RX1 24 "Steamfield$Ground" "widthBeside" "[I", Cond.fieldLink RX1 28 "Steamfield$Ground" "widthBelow" "[I", Cond.fieldLink RX1 31 "Steamfield$Ground" "waterAhead" "[J", Cond.fieldLink RX1 34 "Steamfield$Ground" "degreesAhead" "[J", Cond.fieldLink RX1 37 "Steamfield$Ground" "tracerAhead" "[J", Cond.methodLink RX1 40 yX1_fill, Cond.instanceMethod yX1_fill, Cond.selects RX1 yX1_fill yX1_fill, Cond.code yX1_fill cX1_fill 4 none, Cond.instanceMethod yX5_init, Cond.code yX5_init cX5_init 1 none, Cond.methodLink RX5 3 objectInit, Cond.fieldLink RX5 9 "Steamfield$Wells" "size" "I", Cond.fieldLink RX5 15 "Steamfield$Wells" "place" "[I", Cond.arrayClass .boolean, Cond.fieldLink RX5 19 "Steamfield$Wells" "returns" "[Z"]
def wsL_law0_r4 : List Cond := [Cond.fieldLink RX5 23 "Steamfield$Wells" "setting" "[I", Cond.fieldLink RX5 26 "Steamfield$Wells" "scale" "[I", Cond.fieldLink RX5 29 "Steamfield$Wells" "moved" "[J", Cond.fieldLink RX5 33 "Steamfield$Wells" "shut" "[Z", Cond.fieldLink RX5 36 "Steamfield$Wells" "found" "[J", Cond.fieldLink RX5 39 "Steamfield$Wells" "foundFirst" "[I", Cond.instanceMethod yX4_init, Cond.code yX4_init cX4_init 1 none, Cond.methodLink RX4 3 objectInit, Cond.fieldLink RX4 9 "Steamfield$Uses" "size" "I", Cond.fieldLink RX4 15 "Steamfield$Uses" "least" "[I", Cond.fieldLink RX4 19 "Steamfield$Uses" "drop" "[I", Cond.instanceMethod yX3_init, Cond.code yX3_init cX3_init 1 none, Cond.methodLink RX3 3 objectInit, Cond.fieldLink RX3 9 "Steamfield$Springs" "size" "I", Cond.fieldLink RX3 15 "Steamfield$Springs" "place" "[I", Cond.fieldLink RX3 19 "Steamfield$Springs" "level" "[I", Cond.fieldLink RX3 22 "Steamfield$Springs" "promised" "[I", Cond.fieldLink RX3 25 "Steamfield$Springs" "gave" "[J", Cond.fieldLink RX3 29 "Steamfield$Springs" "dryMonths" "[I", Cond.fieldLink RX3 32 "Steamfield$Springs" "accounts" "[J", Cond.instanceMethod yX2_init, Cond.code yX2_init cX2_init 1 none]
def wsL_law0_r5 : List Cond := [Cond.methodLink RX2 3 objectInit, Cond.fieldLink RX2 9 "Steamfield$Quakes" "all" "I", Cond.fieldLink RX2 15 "Steamfield$Quakes" "months" "[I", Cond.fieldLink RX2 19 "Steamfield$Quakes" "blocks" "[I", Cond.fieldLink RX2 22 "Steamfield$Quakes" "sizes" "[I", Cond.methodLink RL 79 yX7_init, Cond.instanceMethod yX7_init, Cond.code yX7_init cX7_init 2 none, Cond.methodLink RX7 1 objectInit, Cond.fieldLink RX7 7 "SteamfieldModel" "a" "[J", Cond.fieldLink RX7 13 "SteamfieldModel" "kept" "[J", Cond.fieldLink RX7 16 "SteamfieldModel" "right" "[I", Cond.fieldLink RX7 20 "SteamfieldModel" "down" "[I", Cond.fieldLink RX7 23 "SteamfieldModel" "wellIn" "[I", Cond.fieldLink RX7 26 "SteamfieldModel" "isReturn" "[Z", Cond.fieldLink RX7 30 "SteamfieldModel" "much" "[I", Cond.fieldLink RX7 33 "SteamfieldModel" "part" "[J", Cond.fieldLink RX7 36 "SteamfieldModel" "least" "[I", Cond.fieldLink RX7 39 "SteamfieldModel" "drop" "[I", Cond.fieldLink RX7 42 "SteamfieldModel" "springIn" "[I", Cond.fieldLink RX7 45 "SteamfieldModel" "level" "[I", Cond.fieldLink RX7 48 "SteamfieldModel" "promise" "[I", Cond.fieldLink RX7 51 "SteamfieldModel" "comesWater" "[J", Cond.fieldLink RX7 54 "SteamfieldModel" "comesHeat" "[J"]
def wsL_law0_r6 : List Cond := [Cond.fieldLink RX7 57 "SteamfieldModel" "comesTracer" "[J", Cond.constantLong RX7 60 (10000), Cond.constantLong RX7 62 (6000000), Cond.methodLink RL 80 yL_block, Cond.static yL_block, Cond.initialized RL, Cond.codeWith yL_block cL_block 6 (some .int) [(0, 12, 15, 13), (0, 12, 19, 15), (0, 12, 23, 17)], Cond.classLink RL 13 "java/lang/IndexOutOfBoundsException", Cond.classLink RL 15 "java/lang/IllegalArgumentException", Cond.classLink RL 17 "java/lang/IllegalStateException", Cond.methodLink RL 7 yX6_block, Cond.instanceMethod yX6_block, Cond.selects RX6 yX6_block yX6_block, Cond.code yX6_block cX6_block 5 (some .int), Cond.constant RX6 23 (50000), Cond.fieldLink RX6 28 "Steamfield$Field" "month" "I", Cond.fieldLink RX6 36 "Steamfield$Field" "ground" "LSteamfield$Ground;", Cond.fieldLink RX6 40 "Steamfield$Ground" "water" "[J", Cond.methodLink RX6 19 yX6_requireIndex, Cond.static yX6_requireIndex, Cond.code yX6_requireIndex cX6_requireIndex 2 none, Cond.classLink RX6 153 "java/lang/IndexOutOfBoundsException", Cond.initialized "java/lang/IndexOutOfBoundsException", Cond.methodLink RX6 24 yX6_requireRange]
def wsL_law0_r7 : List Cond := [Cond.static yX6_requireRange, Cond.code yX6_requireRange cX6_requireRange 3 none, Cond.methodLink RX6 53 yX6_requireArgument, Cond.static yX6_requireArgument, Cond.code yX6_requireArgument cX6_requireArgument 1 none, Cond.classLink RX6 160 "java/lang/IllegalArgumentException", Cond.initialized "java/lang/IllegalArgumentException", Cond.methodLink RX6 32 yX6_requireState, Cond.static yX6_requireState, Cond.code yX6_requireState cX6_requireState 1 none, Cond.classLink RX6 165 "java/lang/IllegalStateException", Cond.initialized "java/lang/IllegalStateException", Cond.methodLink RX6 46 yX1_fill, Cond.methodLink RL 85 yX7_block, Cond.instanceMethod yX7_block, Cond.selects RX7 yX7_block yX7_block, Cond.code yX7_block cX7_block 5 (some .int), Cond.constant RX7 95 (50000), Cond.fieldLink RX7 64 "SteamfieldModel" "thrown" "I", Cond.methodLink RX7 91 yX7_isBlock, Cond.static yX7_isBlock, Cond.code yX7_isBlock cX7_isBlock 1 (some .boolean), Cond.methodLink RX7 68 yX7_in, Cond.static yX7_in]
def wsL_law0_r8 : List Cond := [Cond.code yX7_in cX7_in 3 (some .boolean), Cond.methodLink RL 86 yX7_thrown, Cond.instanceMethod yX7_thrown, Cond.selects RX7 yX7_thrown yX7_thrown, Cond.code yX7_thrown cX7_thrown 1 (some .int), Cond.methodLink RL 90 yL_crack, Cond.static yL_crack, Cond.codeWith yL_crack cL_crack 6 (some .int) [(0, 12, 15, 13), (0, 12, 19, 15)], Cond.methodLink RL 19 yX6_crack, Cond.instanceMethod yX6_crack, Cond.selects RX6 yX6_crack yX6_crack, Cond.code yX6_crack cX6_crack 4 (some .int), Cond.methodLink RX6 49 yX6_areNeighbours, Cond.static yX6_areNeighbours, Cond.code yX6_areNeighbours cX6_areNeighbours 3 (some .boolean), Cond.methodLink RX6 56 yX1_setWidth, Cond.instanceMethod yX1_setWidth, Cond.selects RX1 yX1_setWidth yX1_setWidth, Cond.code yX1_setWidth cX1_setWidth 7 (some .int), Cond.methodLink RX1 44 Lib.Math.min.name, Cond.static Lib.Math.min.name, Cond.initialized "java/lang/Math", Cond.code Lib.Math.min.name Lib.Math.min.code 2 (some .int), Cond.methodLink RL 92 yX7_crack]
def wsL_law0_r9 : List Cond := [Cond.instanceMethod yX7_crack, Cond.selects RX7 yX7_crack yX7_crack, Cond.code yX7_crack cX7_crack 7 (some .int), Cond.methodLink RX7 82 yX7_areNeighbours, Cond.static yX7_areNeighbours, Cond.code yX7_areNeighbours cX7_areNeighbours 2 (some .boolean), Cond.methodLink RX7 78 yX7_isRight, Cond.static yX7_isRight, Cond.code yX7_isRight cX7_isRight 2 (some .boolean), Cond.methodLink RL 93 yL_rain, Cond.static yL_rain, Cond.codeWith yL_rain cL_rain 4 (some .int) [(0, 9, 12, 15)], Cond.methodLink RL 22 yX6_rain, Cond.instanceMethod yX6_rain, Cond.selects RX6 yX6_rain yX6_rain, Cond.code yX6_rain cX6_rain 3 (some .int), Cond.fieldLink RX6 60 "Steamfield$Field" "rainfall" "I", Cond.methodLink RL 96 yX7_rain, Cond.instanceMethod yX7_rain, Cond.selects RX7 yX7_rain yX7_rain, Cond.code yX7_rain cX7_rain 3 (some .int), Cond.fieldLink RX7 96 "SteamfieldModel" "rain" "I", Cond.methodLink RL 97 yL_well, Cond.static yL_well]
def wsL_law0_r10 : List Cond := [Cond.codeWith yL_well cL_well 5 (some .int) [(0, 10, 13, 13), (0, 10, 17, 17)], Cond.methodLink RL 26 yX6_well, Cond.instanceMethod yX6_well, Cond.selects RX6 yX6_well yX6_well, Cond.code yX6_well cX6_well 3 (some .int), Cond.fieldLink RX6 63 "Steamfield$Field" "wells" "LSteamfield$Wells;", Cond.fieldLink RX6 67 "Steamfield$Wells" "size" "I", Cond.methodLink RX6 72 yX5_drill, Cond.instanceMethod yX5_drill, Cond.selects RX5 yX5_drill yX5_drill, Cond.code yX5_drill cX5_drill 4 (some .int), Cond.methodLink RL 100 yX7_well, Cond.instanceMethod yX7_well, Cond.selects RX7 yX7_well yX7_well, Cond.code yX7_well cX7_well 3 (some .int), Cond.fieldLink RX7 72 "SteamfieldModel" "wells" "I", Cond.constantLong RX7 99 (-1), Cond.methodLink RL 101 yL_open, Cond.static yL_open, Cond.codeWith yL_open cL_open 5 (some .int) [(0, 10, 13, 13), (0, 10, 17, 15)], Cond.methodLink RL 30 yX6_open, Cond.instanceMethod yX6_open, Cond.selects RX6 yX6_open yX6_open, Cond.code yX6_open cX6_open 4 (some .int)]
def wsL_law0_r11 : List Cond := [Cond.fieldLink RX6 76 "Steamfield$Wells" "returns" "[Z", Cond.fieldLink RX6 80 "Steamfield$Wells" "setting" "[I", Cond.methodLink RL 104 yX7_open, Cond.instanceMethod yX7_open, Cond.selects RX7 yX7_open yX7_open, Cond.code yX7_open cX7_open 4 (some .int), Cond.methodLink RX7 101 yX7_isWell, Cond.instanceMethod yX7_isWell, Cond.selects RX7 yX7_isWell yX7_isWell, Cond.code yX7_isWell cX7_isWell 2 (some .boolean), Cond.methodLink RL 105 yL_clean, Cond.static yL_clean, Cond.codeWith yL_clean cL_clean 4 (some .int) [(0, 9, 12, 13), (0, 9, 15, 17)], Cond.methodLink RL 34 yX6_clean, Cond.instanceMethod yX6_clean, Cond.selects RX6 yX6_clean yX6_clean, Cond.code yX6_clean cX6_clean 3 (some .int), Cond.fieldLink RX6 84 "Steamfield$Wells" "scale" "[I", Cond.methodLink RL 107 yX7_clean, Cond.instanceMethod yX7_clean, Cond.selects RX7 yX7_clean yX7_clean, Cond.code yX7_clean cX7_clean 3 (some .int), Cond.methodLink RL 108 yL_use, Cond.static yL_use]
def wsL_law0_r12 : List Cond := [Cond.codeWith yL_use cL_use 5 (some .int) [(0, 10, 13, 15), (0, 10, 17, 17)], Cond.methodLink RL 37 yX6_use, Cond.instanceMethod yX6_use, Cond.selects RX6 yX6_use yX6_use, Cond.code yX6_use cX6_use 3 (some .int), Cond.fieldLink RX6 87 "Steamfield$Field" "uses" "LSteamfield$Uses;", Cond.fieldLink RX6 91 "Steamfield$Uses" "size" "I", Cond.methodLink RX6 94 yX4_add, Cond.instanceMethod yX4_add, Cond.selects RX4 yX4_add yX4_add, Cond.code yX4_add cX4_add 4 (some .int), Cond.methodLink RL 110 yX7_use, Cond.instanceMethod yX7_use, Cond.selects RX7 yX7_use yX7_use, Cond.code yX7_use cX7_use 3 (some .int), Cond.fieldLink RX7 104 "SteamfieldModel" "uses" "I", Cond.methodLink RL 111 yL_spring, Cond.static yL_spring, Cond.codeWith yL_spring cL_spring 6 (some .int) [(0, 12, 15, 13), (0, 12, 19, 15), (0, 12, 23, 17)], Cond.methodLink RL 40 yX6_spring, Cond.instanceMethod yX6_spring, Cond.selects RX6 yX6_spring yX6_spring, Cond.code yX6_spring cX6_spring 4 (some .int), Cond.fieldLink RX6 98 "Steamfield$Field" "springs" "LSteamfield$Springs;"]
def wsL_law0_r13 : List Cond := [Cond.fieldLink RX6 102 "Steamfield$Springs" "size" "I", Cond.methodLink RX6 105 yX3_add, Cond.instanceMethod yX3_add, Cond.selects RX3 yX3_add yX3_add, Cond.code yX3_add cX3_add 5 (some .int), Cond.methodLink RL 113 yX7_spring, Cond.instanceMethod yX7_spring, Cond.selects RX7 yX7_spring yX7_spring, Cond.code yX7_spring cX7_spring 4 (some .int), Cond.fieldLink RX7 75 "SteamfieldModel" "springs" "I", Cond.methodLink RL 114 yL_promise, Cond.static yL_promise, Cond.codeWith yL_promise cL_promise 5 (some .int) [(0, 10, 13, 13), (0, 10, 17, 15)], Cond.methodLink RL 43 yX6_promise, Cond.instanceMethod yX6_promise, Cond.selects RX6 yX6_promise yX6_promise, Cond.code yX6_promise cX6_promise 4 (some .int), Cond.fieldLink RX6 107 "Steamfield$Springs" "promised" "[I", Cond.methodLink RL 116 yX7_promise, Cond.instanceMethod yX7_promise, Cond.selects RX7 yX7_promise yX7_promise, Cond.code yX7_promise cX7_promise 4 (some .int), Cond.methodLink RX7 107 yX7_isSpring, Cond.instanceMethod yX7_isSpring]
def wsL_law0_r14 : List Cond := [Cond.selects RX7 yX7_isSpring yX7_isSpring, Cond.code yX7_isSpring cX7_isSpring 2 (some .boolean), Cond.methodLink RL 117 yL_tracer, Cond.static yL_tracer, Cond.codeWith yL_tracer cL_tracer 5 (some .int) [(0, 9, 12, 13), (0, 9, 16, 15), (0, 9, 20, 17)], Cond.methodLink RL 46 yX6_tracer, Cond.instanceMethod yX6_tracer, Cond.selects RX6 yX6_tracer yX6_tracer, Cond.code yX6_tracer cX6_tracer 3 (some .long), Cond.constant RX6 110 (100000), Cond.fieldLink RX6 111 "Steamfield$Ground" "tracer" "[J", Cond.methodLink RL 119 yX7_tracer, Cond.instanceMethod yX7_tracer, Cond.selects RX7 yX7_tracer yX7_tracer, Cond.code yX7_tracer cX7_tracer 3 (some .long), Cond.constant RX7 110 (100000), Cond.methodLink RL 120 yL_pass, Cond.static yL_pass, Cond.codeWith yL_pass cL_pass 4 (some .int) [(0, 9, 12, 15), (0, 9, 15, 17)], Cond.methodLink RL 50 yX6_pass, Cond.instanceMethod yX6_pass, Cond.selects RX6 yX6_pass yX6_pass, Cond.code yX6_pass cX6_pass 3 (some .int), Cond.methodLink RX6 114 yX0_passMonth]
def wsL_law0_r15 : List Cond := [Cond.instanceMethod yX0_passMonth, Cond.selects RX0 yX0_passMonth yX0_passMonth, Cond.code yX0_passMonth cX0_passMonth 1 none, Cond.methodLink RX0 83 yX0_shutWells, Cond.instanceMethod yX0_shutWells, Cond.selects RX0 yX0_shutWells yX0_shutWells, Cond.code yX0_shutWells cX0_shutWells 2 none, Cond.fieldLink RX0 107 "Steamfield$Wells" "size" "I", Cond.fieldLink RX0 110 "Steamfield$Wells" "moved" "[J", Cond.fieldLink RX0 113 "Steamfield$Wells" "shut" "[Z", Cond.methodLink RX0 117 yX0_mustShut, Cond.instanceMethod yX0_mustShut, Cond.selects RX0 yX0_mustShut yX0_mustShut, Cond.code yX0_mustShut cX0_mustShut 4 (some .boolean), Cond.fieldLink RX0 121 "Steamfield$Wells" "place" "[I", Cond.fieldLink RX0 125 "Steamfield$Wells" "returns" "[Z", Cond.fieldLink RX0 132 "Steamfield$Springs" "size" "I", Cond.fieldLink RX0 137 "Steamfield$Ground" "water" "[J", Cond.fieldLink RX0 140 "Steamfield$Springs" "place" "[I", Cond.fieldLink RX0 141 "Steamfield$Springs" "promised" "[I", Cond.methodLink RX0 128 yX1_light, Cond.instanceMethod yX1_light, Cond.selects RX1 yX1_light yX1_light, Cond.code yX1_light cX1_light 2 (some .int)]
def wsL_law0_r16 : List Cond := [Cond.constantLong RX1 60 (1000), Cond.constantLong RX1 62 (2000), Cond.methodLink RX0 133 yX3_isNear, Cond.instanceMethod yX3_isNear, Cond.selects RX3 yX3_isNear yX3_isNear, Cond.code yX3_isNear cX3_isNear 3 (some .boolean), Cond.methodLink RX0 86 yX0_drawFromWells, Cond.instanceMethod yX0_drawFromWells, Cond.selects RX0 yX0_drawFromWells yX0_drawFromWells, Cond.code yX0_drawFromWells cX0_drawFromWells 2 none, Cond.methodLink RX0 144 yX5_isDrawing, Cond.instanceMethod yX5_isDrawing, Cond.selects RX5 yX5_isDrawing yX5_isDrawing, Cond.code yX5_isDrawing cX5_isDrawing 2 (some .boolean), Cond.methodLink RX0 147 yX0_draw, Cond.instanceMethod yX0_draw, Cond.selects RX0 yX0_draw yX0_draw, Cond.code yX0_draw cX0_draw 9 none, Cond.constantLong RX0 158 (10), Cond.methodLink RX0 160 Lib.MathLoose.min_long.x, Cond.static Lib.MathLoose.min_long.x, Cond.code Lib.MathLoose.min_long.x Lib.MathLoose.min_long.code 4 (some .long), Cond.constantLong RX0 166 (100), Cond.constantLong RX0 168 (200)]
def wsL_law0_r17 : List Cond := [Cond.constantLong RX0 170 (400), Cond.constantLong RX0 180 (60), Cond.methodLink RX0 182 Lib.MathLoose.max_long.x, Cond.static Lib.MathLoose.max_long.x, Cond.code Lib.MathLoose.max_long.x Lib.MathLoose.max_long.code 4 (some .long), Cond.constantLong RX0 185 (160), Cond.methodLink RX0 151 yX1_degrees, Cond.instanceMethod yX1_degrees, Cond.selects RX1 yX1_degrees yX1_degrees, Cond.code yX1_degrees cX1_degrees 2 (some .long), Cond.constantLong RX1 58 (20000), Cond.methodLink RX0 155 yX5_wouldDraw, Cond.instanceMethod yX5_wouldDraw, Cond.selects RX5 yX5_wouldDraw yX5_wouldDraw, Cond.code yX5_wouldDraw cX5_wouldDraw 2 (some .long), Cond.methodLink RX0 172 yX1_give, Cond.instanceMethod yX1_give, Cond.selects RX1 yX1_give yX1_give, Cond.code yX1_give cX1_give 6 (some .long), Cond.methodLink RX1 50 yX1_degrees, Cond.methodLink RX0 176 yX5_find, Cond.instanceMethod yX5_find, Cond.selects RX5 yX5_find yX5_find, Cond.code yX5_find cX5_find 5 none]
def wsL_law0_r18 : List Cond := [Cond.methodLink RX0 187 yX5_growScale, Cond.instanceMethod yX5_growScale, Cond.selects RX5 yX5_growScale yX5_growScale, Cond.code yX5_growScale cX5_growScale 4 none, Cond.constantLong RX5 42 (500), Cond.constantLong RX5 44 (100), Cond.methodLink RX5 46 Lib.MathLoose.min_long.x, Cond.methodLink RX0 191 yX3_charge, Cond.instanceMethod yX3_charge, Cond.selects RX3 yX3_charge yX3_charge, Cond.code yX3_charge cX3_charge 6 none, Cond.methodLink RX3 43 yX3_isNear, Cond.methodLink RX0 89 yX0_sellHeat, Cond.instanceMethod yX0_sellHeat, Cond.selects RX0 yX0_sellHeat yX0_sellHeat, Cond.code yX0_sellHeat cX0_sellHeat 4 none, Cond.fieldLink RX0 195 "Steamfield$Uses" "size" "I", Cond.fieldLink RX0 196 "Steamfield$Uses" "least" "[I", Cond.fieldLink RX0 199 "Steamfield$Uses" "drop" "[I", Cond.methodLink RX0 92 yX0_giveBack, Cond.instanceMethod yX0_giveBack, Cond.selects RX0 yX0_giveBack yX0_giveBack, Cond.code yX0_giveBack cX0_giveBack 6 none, Cond.fieldLink RX0 216 "Steamfield$Ground" "strain" "[J"]
def wsL_law0_r19 : List Cond := [Cond.methodLink RX0 202 yX5_allWeight, Cond.instanceMethod yX5_allWeight, Cond.selects RX5 yX5_allWeight yX5_allWeight, Cond.code yX5_allWeight cX5_allWeight 4 (some .long), Cond.methodLink RX5 52 yX5_isReturning, Cond.instanceMethod yX5_isReturning, Cond.selects RX5 yX5_isReturning yX5_isReturning, Cond.code yX5_isReturning cX5_isReturning 2 (some .boolean), Cond.methodLink RX0 206 yX5_isReturning, Cond.methodLink RX0 209 yX0_part, Cond.instanceMethod yX0_part, Cond.selects RX0 yX0_part yX0_part, Cond.code yX0_part cX0_part 6 (some .long), Cond.fieldLink RX0 219 "Steamfield$Wells" "setting" "[I", Cond.constantLong RX0 222 (2), Cond.methodLink RX0 212 yX1_take, Cond.instanceMethod yX1_take, Cond.selects RX1 yX1_take yX1_take, Cond.code yX1_take cX1_take 6 none, Cond.methodLink RX0 95 yX0_shake, Cond.instanceMethod yX0_shake, Cond.selects RX0 yX0_shake yX0_shake, Cond.code yX0_shake cX0_shake 4 none, Cond.constantLong RX0 224 (3000)]
def wsL_law0_r20 : List Cond := [Cond.constantLong RX0 226 (1000), Cond.methodLink RX0 228 yX2_add, Cond.instanceMethod yX2_add, Cond.selects RX2 yX2_add yX2_add, Cond.code yX2_add cX2_add 4 none, Cond.methodLink RX0 98 yX1_flowThroughCracks, Cond.instanceMethod yX1_flowThroughCracks, Cond.selects RX1 yX1_flowThroughCracks yX1_flowThroughCracks, Cond.code yX1_flowThroughCracks cX1_flowThroughCracks 2 none, Cond.methodLink RX1 68 yX1_flowBetween, Cond.instanceMethod yX1_flowBetween, Cond.selects RX1 yX1_flowBetween yX1_flowBetween, Cond.code yX1_flowBetween cX1_flowBetween 4 none, Cond.methodLink RX1 71 yX1_flow, Cond.instanceMethod yX1_flow, Cond.selects RX1 yX1_flow yX1_flow, Cond.code yX1_flow cX1_flow 8 none, Cond.methodLink RX1 74 yX1_take, Cond.methodLink RX0 101 yX0_rainAndWarm, Cond.instanceMethod yX0_rainAndWarm, Cond.selects RX0 yX0_rainAndWarm yX0_rainAndWarm, Cond.code yX0_rainAndWarm cX0_rainAndWarm 2 none, Cond.constantLong RX0 232 (80), Cond.methodLink RX0 234 yX1_warm]
def wsL_law0_r21 : List Cond := [Cond.instanceMethod yX1_warm, Cond.selects RX1 yX1_warm yX1_warm, Cond.code yX1_warm cX1_warm 4 none, Cond.constantLong RX1 78 (300), Cond.constantLong RX1 80 (50), Cond.methodLink RX0 104 yX0_feedSprings, Cond.instanceMethod yX0_feedSprings, Cond.selects RX0 yX0_feedSprings yX0_feedSprings, Cond.code yX0_feedSprings cX0_feedSprings 7 none, Cond.fieldLink RX0 237 "Steamfield$Springs" "level" "[I", Cond.constantLong RX0 240 (50), Cond.methodLink RX0 242 yX3_note, Cond.instanceMethod yX3_note, Cond.selects RX3 yX3_note yX3_note, Cond.code yX3_note cX3_note 4 none, Cond.methodLink RX3 46 yX3_clearAccounts, Cond.instanceMethod yX3_clearAccounts, Cond.selects RX3 yX3_clearAccounts yX3_clearAccounts, Cond.code yX3_clearAccounts cX3_clearAccounts 3 none, Cond.methodLink RL 122 yX7_pass, Cond.instanceMethod yX7_pass, Cond.selects RX7 yX7_pass yX7_pass, Cond.code yX7_pass cX7_pass 3 (some .int), Cond.constantLong RX7 183 (600)]
def wsL_law0_r22 : List Cond := [Cond.methodLink RX7 185 yX7_month, Cond.instanceMethod yX7_month, Cond.selects RX7 yX7_month yX7_month, Cond.code yX7_month cX7_month 10 none, Cond.constantLong RX7 125 (100), Cond.methodLink RX7 161 yX7_shuts, Cond.instanceMethod yX7_shuts, Cond.selects RX7 yX7_shuts yX7_shuts, Cond.code yX7_shuts cX7_shuts 3 none, Cond.methodLink RX7 118 yX7_light, Cond.instanceMethod yX7_light, Cond.selects RX7 yX7_light yX7_light, Cond.code yX7_light cX7_light 2 (some .int), Cond.constantLong RX7 87 (1000), Cond.constantLong RX7 89 (2000), Cond.methodLink RX7 122 yX7_isDryNear, Cond.instanceMethod yX7_isDryNear, Cond.selects RX7 yX7_isDryNear yX7_isDryNear, Cond.code yX7_isDryNear cX7_isDryNear 4 (some .boolean), Cond.methodLink RX7 115 yX7_isNear, Cond.static yX7_isNear, Cond.code yX7_isNear cX7_isNear 2 (some .boolean), Cond.methodLink RX7 111 yX7_degrees, Cond.instanceMethod yX7_degrees]
def wsL_law0_r23 : List Cond := [Cond.selects RX7 yX7_degrees yX7_degrees, Cond.code yX7_degrees cX7_degrees 2 (some .long), Cond.constantLong RX7 85 (20000), Cond.methodLink RX7 129 yX7_lesser, Cond.static yX7_lesser, Cond.code yX7_lesser cX7_lesser 4 (some .long), Cond.methodLink RX7 164 yX7_draws, Cond.instanceMethod yX7_draws, Cond.selects RX7 yX7_draws yX7_draws, Cond.code yX7_draws cX7_draws 12 (some .long), Cond.constantLong RX7 127 (10), Cond.constantLong RX7 137 (200), Cond.constantLong RX7 139 (400), Cond.constantLong RX7 141 (60), Cond.constantLong RX7 143 (160), Cond.constantLong RX7 145 (500), Cond.methodLink RX7 133 yX7_gives, Cond.instanceMethod yX7_gives, Cond.selects RX7 yX7_gives yX7_gives, Cond.code yX7_gives cX7_gives 6 (some .long), Cond.methodLink RX7 167 yX7_returns, Cond.instanceMethod yX7_returns, Cond.selects RX7 yX7_returns yX7_returns, Cond.code yX7_returns cX7_returns 10 none]
def wsL_law0_r24 : List Cond := [Cond.constantLong RX7 147 (2), Cond.methodLink RX7 171 yX7_quakes, Cond.instanceMethod yX7_quakes, Cond.selects RX7 yX7_quakes yX7_quakes, Cond.code yX7_quakes cX7_quakes 3 none, Cond.constantLong RX7 149 (3000), Cond.methodLink RX7 175 yX7_cracks, Cond.instanceMethod yX7_cracks, Cond.selects RX7 yX7_cracks yX7_cracks, Cond.code yX7_cracks cX7_cracks 2 none, Cond.methodLink RX7 151 yX7_leaks, Cond.instanceMethod yX7_leaks, Cond.selects RX7 yX7_leaks yX7_leaks, Cond.code yX7_leaks cX7_leaks 10 none, Cond.methodLink RX7 178 yX7_warms, Cond.instanceMethod yX7_warms, Cond.selects RX7 yX7_warms yX7_warms, Cond.code yX7_warms cX7_warms 2 none, Cond.constantLong RX7 155 (80), Cond.constantLong RX7 157 (300), Cond.constantLong RX7 159 (50), Cond.methodLink RX7 181 yX7_springs, Cond.instanceMethod yX7_springs, Cond.selects RX7 yX7_springs yX7_springs]
def wsL_law0_r25 : List Cond := [Cond.code yX7_springs cX7_springs 6 none, Cond.methodLink RL 123 yL_ofBlock, Cond.static yL_ofBlock, Cond.codeWith yL_ofBlock cL_ofBlock 5 (some .int) [(0, 9, 12, 13), (0, 9, 16, 15)], Cond.methodLink RL 53 yX6_ofBlock, Cond.instanceMethod yX6_ofBlock, Cond.selects RX6 yX6_ofBlock yX6_ofBlock, Cond.code yX6_ofBlock cX6_ofBlock 3 (some .long), Cond.methodLink RX6 117 yX1_tell, Cond.instanceMethod yX1_tell, Cond.selects RX1 yX1_tell yX1_tell, Cond.code yX1_tell cX1_tell 3 (some .long), Cond.methodLink RX1 54 yX1_light, Cond.methodLink RL 125 yX7_ofBlock, Cond.instanceMethod yX7_ofBlock, Cond.selects RX7 yX7_ofBlock yX7_ofBlock, Cond.code yX7_ofBlock cX7_ofBlock 3 (some .long), Cond.methodLink RX7 188 yX7_told, Cond.instanceMethod yX7_told, Cond.selects RX7 yX7_told yX7_told, Cond.code yX7_told cX7_told 3 (some .long), Cond.methodLink RL 126 yL_would, Cond.static yL_would, Cond.codeWith yL_would cL_would 6 (some .int) [(0, 11, 14, 13), (0, 11, 18, 15)]]
def wsL_law0_r26 : List Cond := [Cond.methodLink RL 56 yX6_would, Cond.instanceMethod yX6_would, Cond.selects RX6 yX6_would yX6_would, Cond.code yX6_would cX6_would 5 (some .long), Cond.methodLink RX6 121 yX0_copy, Cond.instanceMethod yX0_copy, Cond.selects RX0 yX0_copy yX0_copy, Cond.code yX0_copy cX0_copy 3 none, Cond.methodLink RX0 67 yX1_copy, Cond.instanceMethod yX1_copy, Cond.selects RX1 yX1_copy yX1_copy, Cond.code yX1_copy cX1_copy 3 none, Cond.methodLink RX0 71 yX5_copy, Cond.instanceMethod yX5_copy, Cond.selects RX5 yX5_copy yX5_copy, Cond.code yX5_copy cX5_copy 3 none, Cond.methodLink RX0 74 yX4_copy, Cond.instanceMethod yX4_copy, Cond.selects RX4 yX4_copy yX4_copy, Cond.code yX4_copy cX4_copy 3 none, Cond.methodLink RX0 77 yX3_copy, Cond.instanceMethod yX3_copy, Cond.selects RX3 yX3_copy yX3_copy, Cond.code yX3_copy cX3_copy 3 none]
def wsL_law0_r27 : List Cond := [Cond.methodLink RX0 80 yX2_copy, Cond.instanceMethod yX2_copy, Cond.selects RX2 yX2_copy yX2_copy, Cond.code yX2_copy cX2_copy 3 none, Cond.methodLink RX2 31 yX2_kept, Cond.instanceMethod yX2_kept, Cond.selects RX2 yX2_kept yX2_kept, Cond.code yX2_kept cX2_kept 1 (some .int), Cond.methodLink RX2 25 Lib.Math.min.name, Cond.methodLink RL 128 yX7_would, Cond.instanceMethod yX7_would, Cond.selects RX7 yX7_would yX7_would, Cond.code yX7_would cX7_would 7 (some .long), Cond.methodLink RL 129 yL_ofWell, Cond.static yL_ofWell, Cond.codeWith yL_ofWell cL_ofWell 5 (some .int) [(0, 9, 12, 13), (0, 9, 16, 15)], Cond.methodLink RL 60 yX6_ofWell, Cond.instanceMethod yX6_ofWell, Cond.selects RX6 yX6_ofWell yX6_ofWell, Cond.code yX6_ofWell cX6_ofWell 3 (some .long), Cond.methodLink RX6 125 yX5_tell, Cond.instanceMethod yX5_tell, Cond.selects RX5 yX5_tell yX5_tell, Cond.code yX5_tell cX5_tell 3 (some .long)]
def wsL_law0_r28 : List Cond := [Cond.methodLink RL 131 yX7_ofWell, Cond.instanceMethod yX7_ofWell, Cond.selects RX7 yX7_ofWell yX7_ofWell, Cond.code yX7_ofWell cX7_ofWell 3 (some .long), Cond.methodLink RL 132 yL_ofSpring, Cond.static yL_ofSpring, Cond.codeWith yL_ofSpring cL_ofSpring 5 (some .int) [(0, 9, 12, 13), (0, 9, 16, 15)], Cond.methodLink RL 63 yX6_ofSpring, Cond.instanceMethod yX6_ofSpring, Cond.selects RX6 yX6_ofSpring yX6_ofSpring, Cond.code yX6_ofSpring cX6_ofSpring 3 (some .long), Cond.methodLink RX6 126 yX3_tell, Cond.instanceMethod yX3_tell, Cond.selects RX3 yX3_tell yX3_tell, Cond.code yX3_tell cX3_tell 3 (some .long), Cond.methodLink RX3 35 yX3_toBlame, Cond.instanceMethod yX3_toBlame, Cond.selects RX3 yX3_toBlame yX3_toBlame, Cond.code yX3_toBlame cX3_toBlame 8 (some .int), Cond.methodLink RL 134 yX7_ofSpring, Cond.instanceMethod yX7_ofSpring, Cond.selects RX7 yX7_ofSpring yX7_ofSpring, Cond.code yX7_ofSpring cX7_ofSpring 3 (some .long), Cond.methodLink RX7 192 yX7_toBlame]
def wsL_law0_r29 : List Cond := [Cond.instanceMethod yX7_toBlame, Cond.selects RX7 yX7_toBlame yX7_toBlame, Cond.code yX7_toBlame cX7_toBlame 6 (some .int), Cond.methodLink RL 135 yL_quake, Cond.static yL_quake, Cond.codeWith yL_quake cL_quake 5 (some .int) [(0, 10, 13, 13), (0, 10, 17, 15)], Cond.methodLink RL 66 yX6_quake, Cond.instanceMethod yX6_quake, Cond.selects RX6 yX6_quake yX6_quake, Cond.code yX6_quake cX6_quake 3 (some .int), Cond.fieldLink RX6 127 "Steamfield$Field" "quakes" "LSteamfield$Quakes;", Cond.methodLink RX6 131 yX2_kept, Cond.methodLink RX6 137 yX2_tell, Cond.instanceMethod yX2_tell, Cond.selects RX2 yX2_tell yX2_tell, Cond.code yX2_tell cX2_tell 3 (some .int), Cond.methodLink RL 137 yX7_quake, Cond.instanceMethod yX7_quake, Cond.selects RX7 yX7_quake yX7_quake, Cond.code yX7_quake cX7_quake 4 (some .int), Cond.methodLink RL 138 yL_count, Cond.static yL_count, Cond.codeWith yL_count cL_count 4 (some .int) [(0, 9, 12, 15)], Cond.methodLink RL 69 yX6_count]
def wsL_law0_r30 : List Cond := [Cond.instanceMethod yX6_count, Cond.selects RX6 yX6_count yX6_count, Cond.code yX6_count cX6_count 2 (some .int), Cond.fieldLink RX6 139 "Steamfield$Quakes" "all" "I", Cond.methodLink RL 140 yX7_count, Cond.instanceMethod yX7_count, Cond.selects RX7 yX7_count yX7_count, Cond.code yX7_count cX7_count 2 (some .int), Cond.methodLink RL 141 yL_sum, Cond.static yL_sum, Cond.codeWith yL_sum cL_sum 4 (some .int) [(0, 8, 11, 15)], Cond.methodLink RL 72 yX6_sum, Cond.instanceMethod yX6_sum, Cond.selects RX6 yX6_sum yX6_sum, Cond.code yX6_sum cX6_sum 2 (some .long), Cond.fieldLink RX6 146 "Steamfield$Field" "sums" "[J", Cond.methodLink RX6 142 yX1_allWater, Cond.instanceMethod yX1_allWater, Cond.selects RX1 yX1_allWater yX1_allWater, Cond.code yX1_allWater cX1_allWater 4 (some .long), Cond.methodLink RL 143 yX7_sum, Cond.instanceMethod yX7_sum, Cond.selects RX7 yX7_sum yX7_sum, Cond.code yX7_sum cX7_sum 5 (some .long)]
def wsL_law0_r31 : List Cond := [Cond.methodLink RL 144 yX6_share, Cond.instanceMethod yX6_share, Cond.selects RX6 yX6_share yX6_share, Cond.code yX6_share cX6_share 5 (some .int), Cond.methodLink RX6 149 yX6_bitsOf, Cond.static yX6_bitsOf, Cond.code yX6_bitsOf cX6_bitsOf 3 (some .int), Cond.constantFloat RX6 170 (1258291200), Cond.methodLink RL 147 yX7_share, Cond.instanceMethod yX7_share, Cond.selects RX7 yX7_share yX7_share, Cond.code yX7_share cX7_share 3 (some .int), Cond.constantFloat RX7 195 (1258291200)]
def wsL_law0 : List Cond := (wsL_law0_r1 ++ (wsL_law0_r2 ++ (wsL_law0_r3 ++ (wsL_law0_r4 ++ (wsL_law0_r5 ++ (wsL_law0_r6 ++ (wsL_law0_r7 ++ (wsL_law0_r8 ++ (wsL_law0_r9 ++ (wsL_law0_r10 ++ (wsL_law0_r11 ++ (wsL_law0_r12 ++ (wsL_law0_r13 ++ (wsL_law0_r14 ++ (wsL_law0_r15 ++ (wsL_law0_r16 ++ (wsL_law0_r17 ++ (wsL_law0_r18 ++ (wsL_law0_r19 ++ (wsL_law0_r20 ++ (wsL_law0_r21 ++ (wsL_law0_r22 ++ (wsL_law0_r23 ++ (wsL_law0_r24 ++ (wsL_law0_r25 ++ (wsL_law0_r26 ++ (wsL_law0_r27 ++ (wsL_law0_r28 ++ (wsL_law0_r29 ++ (wsL_law0_r30 ++ wsL_law0_r31)))))))))))))))))))))))))))))) ++ wsX60 ++ wsX70 ++ wsX00 ++ wsX10 ++ wsX50 ++ wsX40 ++ wsX30 ++ wsX20 ++ ([] : List Cond)
def wsL_law : List Cond := wsL_law0 ++ (vx_atS RX6 157 "java/lang/IndexOutOfBoundsException" ["java/lang/RuntimeException", "java/lang/Exception"]).filter goodWord ++ (vx_atS RX6 164 "java/lang/IllegalArgumentException" ["java/lang/RuntimeException", "java/lang/Exception"]).filter goodWord ++ (vx_atS RX6 169 "java/lang/IllegalStateException" ["java/lang/RuntimeException", "java/lang/Exception"]).filter goodWord
theorem inlX0 : ∀ w ∈ wsX00, w ∈ wsL_law := fun _ h => List.mem_append_left _ (List.mem_append_left _ (List.mem_append_left _ (List.mem_append_left _ (List.mem_append_left _ (List.mem_append_left _ (List.mem_append_left _ (List.mem_append_left _ (List.mem_append_left _ (List.mem_append_right _ h)))))))))
theorem inlX1 : ∀ w ∈ wsX10, w ∈ wsL_law := fun _ h => List.mem_append_left _ (List.mem_append_left _ (List.mem_append_left _ (List.mem_append_left _ (List.mem_append_left _ (List.mem_append_left _ (List.mem_append_left _ (List.mem_append_left _ (List.mem_append_right _ h))))))))
theorem inlX2 : ∀ w ∈ wsX20, w ∈ wsL_law := fun _ h => List.mem_append_left _ (List.mem_append_left _ (List.mem_append_left _ (List.mem_append_left _ (List.mem_append_right _ h))))
theorem inlX3 : ∀ w ∈ wsX30, w ∈ wsL_law := fun _ h => List.mem_append_left _ (List.mem_append_left _ (List.mem_append_left _ (List.mem_append_left _ (List.mem_append_left _ (List.mem_append_right _ h)))))
theorem inlX4 : ∀ w ∈ wsX40, w ∈ wsL_law := fun _ h => List.mem_append_left _ (List.mem_append_left _ (List.mem_append_left _ (List.mem_append_left _ (List.mem_append_left _ (List.mem_append_left _ (List.mem_append_right _ h))))))
theorem inlX5 : ∀ w ∈ wsX50, w ∈ wsL_law := fun _ h => List.mem_append_left _ (List.mem_append_left _ (List.mem_append_left _ (List.mem_append_left _ (List.mem_append_left _ (List.mem_append_left _ (List.mem_append_left _ (List.mem_append_right _ h)))))))
theorem inlX6 : ∀ w ∈ wsX60, w ∈ wsL_law := fun _ h => List.mem_append_left _ (List.mem_append_left _ (List.mem_append_left _ (List.mem_append_left _ (List.mem_append_left _ (List.mem_append_left _ (List.mem_append_left _ (List.mem_append_left _ (List.mem_append_left _ (List.mem_append_left _ (List.mem_append_left _ (List.mem_append_right _ h)))))))))))
theorem inlX7 : ∀ w ∈ wsX70, w ∈ wsL_law := fun _ h => List.mem_append_left _ (List.mem_append_left _ (List.mem_append_left _ (List.mem_append_left _ (List.mem_append_left _ (List.mem_append_left _ (List.mem_append_left _ (List.mem_append_left _ (List.mem_append_left _ (List.mem_append_left _ (List.mem_append_right _ h))))))))))
abbrev vwCl : List vw_C := [(RX0, TX0, 11), (RX1, TX1, 9), (RX2, TX2, 4), (RX3, TX3, 7), (RX4, TX4, 3), (RX5, TX5, 9), (RX6, TX6, 2), (RX7, TX7, 21)]
end
section
theorem kR (w : Cond) (h : w ∈ wsL_law0) : w ∈ wsL_law := List.mem_append_left _ (List.mem_append_left _ (List.mem_append_left _ h))
theorem kR1 (w : Cond) (h : w ∈ wsL_law0_r1) : w ∈ wsL_law := kR w (List.mem_append_left _ (List.mem_append_left _ (List.mem_append_left _ (List.mem_append_left _ (List.mem_append_left _ (List.mem_append_left _ (List.mem_append_left _ (List.mem_append_left _ (List.mem_append_left _ (List.mem_append_left _ h))))))))))
theorem kR2 (w : Cond) (h : w ∈ wsL_law0_r2) : w ∈ wsL_law := kR w (List.mem_append_left _ (List.mem_append_left _ (List.mem_append_left _ (List.mem_append_left _ (List.mem_append_left _ (List.mem_append_left _ (List.mem_append_left _ (List.mem_append_left _ (List.mem_append_left _ (List.mem_append_right _ (List.mem_append_left _ h)))))))))))
theorem kR3 (w : Cond) (h : w ∈ wsL_law0_r3) : w ∈ wsL_law := kR w (List.mem_append_left _ (List.mem_append_left _ (List.mem_append_left _ (List.mem_append_left _ (List.mem_append_left _ (List.mem_append_left _ (List.mem_append_left _ (List.mem_append_left _ (List.mem_append_left _ (List.mem_append_right _ (List.mem_append_right _ (List.mem_append_left _ h))))))))))))
theorem kR4 (w : Cond) (h : w ∈ wsL_law0_r4) : w ∈ wsL_law := kR w (List.mem_append_left _ (List.mem_append_left _ (List.mem_append_left _ (List.mem_append_left _ (List.mem_append_left _ (List.mem_append_left _ (List.mem_append_left _ (List.mem_append_left _ (List.mem_append_left _ (List.mem_append_right _ (List.mem_append_right _ (List.mem_append_right _ (List.mem_append_left _ h)))))))))))))
theorem kR5 (w : Cond) (h : w ∈ wsL_law0_r5) : w ∈ wsL_law := kR w (List.mem_append_left _ (List.mem_append_left _ (List.mem_append_left _ (List.mem_append_left _ (List.mem_append_left _ (List.mem_append_left _ (List.mem_append_left _ (List.mem_append_left _ (List.mem_append_left _ (List.mem_append_right _ (List.mem_append_right _ (List.mem_append_right _ (List.mem_append_right _ (List.mem_append_left _ h))))))))))))))
theorem kR6 (w : Cond) (h : w ∈ wsL_law0_r6) : w ∈ wsL_law := kR w (List.mem_append_left _ (List.mem_append_left _ (List.mem_append_left _ (List.mem_append_left _ (List.mem_append_left _ (List.mem_append_left _ (List.mem_append_left _ (List.mem_append_left _ (List.mem_append_left _ (List.mem_append_right _ (List.mem_append_right _ (List.mem_append_right _ (List.mem_append_right _ (List.mem_append_right _ (List.mem_append_left _ h)))))))))))))))
theorem kR7 (w : Cond) (h : w ∈ wsL_law0_r7) : w ∈ wsL_law := kR w (List.mem_append_left _ (List.mem_append_left _ (List.mem_append_left _ (List.mem_append_left _ (List.mem_append_left _ (List.mem_append_left _ (List.mem_append_left _ (List.mem_append_left _ (List.mem_append_left _ (List.mem_append_right _ (List.mem_append_right _ (List.mem_append_right _ (List.mem_append_right _ (List.mem_append_right _ (List.mem_append_right _ (List.mem_append_left _ h))))))))))))))))
theorem kR8 (w : Cond) (h : w ∈ wsL_law0_r8) : w ∈ wsL_law := kR w (List.mem_append_left _ (List.mem_append_left _ (List.mem_append_left _ (List.mem_append_left _ (List.mem_append_left _ (List.mem_append_left _ (List.mem_append_left _ (List.mem_append_left _ (List.mem_append_left _ (List.mem_append_right _ (List.mem_append_right _ (List.mem_append_right _ (List.mem_append_right _ (List.mem_append_right _ (List.mem_append_right _ (List.mem_append_right _ (List.mem_append_left _ h)))))))))))))))))
theorem kR9 (w : Cond) (h : w ∈ wsL_law0_r9) : w ∈ wsL_law := kR w (List.mem_append_left _ (List.mem_append_left _ (List.mem_append_left _ (List.mem_append_left _ (List.mem_append_left _ (List.mem_append_left _ (List.mem_append_left _ (List.mem_append_left _ (List.mem_append_left _ (List.mem_append_right _ (List.mem_append_right _ (List.mem_append_right _ (List.mem_append_right _ (List.mem_append_right _ (List.mem_append_right _ (List.mem_append_right _ (List.mem_append_right _ (List.mem_append_left _ h))))))))))))))))))
theorem kR10 (w : Cond) (h : w ∈ wsL_law0_r10) : w ∈ wsL_law := kR w (List.mem_append_left _ (List.mem_append_left _ (List.mem_append_left _ (List.mem_append_left _ (List.mem_append_left _ (List.mem_append_left _ (List.mem_append_left _ (List.mem_append_left _ (List.mem_append_left _ (List.mem_append_right _ (List.mem_append_right _ (List.mem_append_right _ (List.mem_append_right _ (List.mem_append_right _ (List.mem_append_right _ (List.mem_append_right _ (List.mem_append_right _ (List.mem_append_right _ (List.mem_append_left _ h)))))))))))))))))))
theorem kR11 (w : Cond) (h : w ∈ wsL_law0_r11) : w ∈ wsL_law := kR w (List.mem_append_left _ (List.mem_append_left _ (List.mem_append_left _ (List.mem_append_left _ (List.mem_append_left _ (List.mem_append_left _ (List.mem_append_left _ (List.mem_append_left _ (List.mem_append_left _ (List.mem_append_right _ (List.mem_append_right _ (List.mem_append_right _ (List.mem_append_right _ (List.mem_append_right _ (List.mem_append_right _ (List.mem_append_right _ (List.mem_append_right _ (List.mem_append_right _ (List.mem_append_right _ (List.mem_append_left _ h))))))))))))))))))))
theorem kR12 (w : Cond) (h : w ∈ wsL_law0_r12) : w ∈ wsL_law := kR w (List.mem_append_left _ (List.mem_append_left _ (List.mem_append_left _ (List.mem_append_left _ (List.mem_append_left _ (List.mem_append_left _ (List.mem_append_left _ (List.mem_append_left _ (List.mem_append_left _ (List.mem_append_right _ (List.mem_append_right _ (List.mem_append_right _ (List.mem_append_right _ (List.mem_append_right _ (List.mem_append_right _ (List.mem_append_right _ (List.mem_append_right _ (List.mem_append_right _ (List.mem_append_right _ (List.mem_append_right _ (List.mem_append_left _ h)))))))))))))))))))))
theorem kR13 (w : Cond) (h : w ∈ wsL_law0_r13) : w ∈ wsL_law := kR w (List.mem_append_left _ (List.mem_append_left _ (List.mem_append_left _ (List.mem_append_left _ (List.mem_append_left _ (List.mem_append_left _ (List.mem_append_left _ (List.mem_append_left _ (List.mem_append_left _ (List.mem_append_right _ (List.mem_append_right _ (List.mem_append_right _ (List.mem_append_right _ (List.mem_append_right _ (List.mem_append_right _ (List.mem_append_right _ (List.mem_append_right _ (List.mem_append_right _ (List.mem_append_right _ (List.mem_append_right _ (List.mem_append_right _ (List.mem_append_left _ h))))))))))))))))))))))
theorem kR14 (w : Cond) (h : w ∈ wsL_law0_r14) : w ∈ wsL_law := kR w (List.mem_append_left _ (List.mem_append_left _ (List.mem_append_left _ (List.mem_append_left _ (List.mem_append_left _ (List.mem_append_left _ (List.mem_append_left _ (List.mem_append_left _ (List.mem_append_left _ (List.mem_append_right _ (List.mem_append_right _ (List.mem_append_right _ (List.mem_append_right _ (List.mem_append_right _ (List.mem_append_right _ (List.mem_append_right _ (List.mem_append_right _ (List.mem_append_right _ (List.mem_append_right _ (List.mem_append_right _ (List.mem_append_right _ (List.mem_append_right _ (List.mem_append_left _ h)))))))))))))))))))))))
theorem kR15 (w : Cond) (h : w ∈ wsL_law0_r15) : w ∈ wsL_law := kR w (List.mem_append_left _ (List.mem_append_left _ (List.mem_append_left _ (List.mem_append_left _ (List.mem_append_left _ (List.mem_append_left _ (List.mem_append_left _ (List.mem_append_left _ (List.mem_append_left _ (List.mem_append_right _ (List.mem_append_right _ (List.mem_append_right _ (List.mem_append_right _ (List.mem_append_right _ (List.mem_append_right _ (List.mem_append_right _ (List.mem_append_right _ (List.mem_append_right _ (List.mem_append_right _ (List.mem_append_right _ (List.mem_append_right _ (List.mem_append_right _ (List.mem_append_right _ (List.mem_append_left _ h))))))))))))))))))))))))
theorem kR16 (w : Cond) (h : w ∈ wsL_law0_r16) : w ∈ wsL_law := kR w (List.mem_append_left _ (List.mem_append_left _ (List.mem_append_left _ (List.mem_append_left _ (List.mem_append_left _ (List.mem_append_left _ (List.mem_append_left _ (List.mem_append_left _ (List.mem_append_left _ (List.mem_append_right _ (List.mem_append_right _ (List.mem_append_right _ (List.mem_append_right _ (List.mem_append_right _ (List.mem_append_right _ (List.mem_append_right _ (List.mem_append_right _ (List.mem_append_right _ (List.mem_append_right _ (List.mem_append_right _ (List.mem_append_right _ (List.mem_append_right _ (List.mem_append_right _ (List.mem_append_right _ (List.mem_append_left _ h)))))))))))))))))))))))))
theorem kR17 (w : Cond) (h : w ∈ wsL_law0_r17) : w ∈ wsL_law := kR w (List.mem_append_left _ (List.mem_append_left _ (List.mem_append_left _ (List.mem_append_left _ (List.mem_append_left _ (List.mem_append_left _ (List.mem_append_left _ (List.mem_append_left _ (List.mem_append_left _ (List.mem_append_right _ (List.mem_append_right _ (List.mem_append_right _ (List.mem_append_right _ (List.mem_append_right _ (List.mem_append_right _ (List.mem_append_right _ (List.mem_append_right _ (List.mem_append_right _ (List.mem_append_right _ (List.mem_append_right _ (List.mem_append_right _ (List.mem_append_right _ (List.mem_append_right _ (List.mem_append_right _ (List.mem_append_right _ (List.mem_append_left _ h))))))))))))))))))))))))))
theorem kR18 (w : Cond) (h : w ∈ wsL_law0_r18) : w ∈ wsL_law := kR w (List.mem_append_left _ (List.mem_append_left _ (List.mem_append_left _ (List.mem_append_left _ (List.mem_append_left _ (List.mem_append_left _ (List.mem_append_left _ (List.mem_append_left _ (List.mem_append_left _ (List.mem_append_right _ (List.mem_append_right _ (List.mem_append_right _ (List.mem_append_right _ (List.mem_append_right _ (List.mem_append_right _ (List.mem_append_right _ (List.mem_append_right _ (List.mem_append_right _ (List.mem_append_right _ (List.mem_append_right _ (List.mem_append_right _ (List.mem_append_right _ (List.mem_append_right _ (List.mem_append_right _ (List.mem_append_right _ (List.mem_append_right _ (List.mem_append_left _ h)))))))))))))))))))))))))))
theorem kR19 (w : Cond) (h : w ∈ wsL_law0_r19) : w ∈ wsL_law := kR w (List.mem_append_left _ (List.mem_append_left _ (List.mem_append_left _ (List.mem_append_left _ (List.mem_append_left _ (List.mem_append_left _ (List.mem_append_left _ (List.mem_append_left _ (List.mem_append_left _ (List.mem_append_right _ (List.mem_append_right _ (List.mem_append_right _ (List.mem_append_right _ (List.mem_append_right _ (List.mem_append_right _ (List.mem_append_right _ (List.mem_append_right _ (List.mem_append_right _ (List.mem_append_right _ (List.mem_append_right _ (List.mem_append_right _ (List.mem_append_right _ (List.mem_append_right _ (List.mem_append_right _ (List.mem_append_right _ (List.mem_append_right _ (List.mem_append_right _ (List.mem_append_left _ h))))))))))))))))))))))))))))
theorem kR20 (w : Cond) (h : w ∈ wsL_law0_r20) : w ∈ wsL_law := kR w (List.mem_append_left _ (List.mem_append_left _ (List.mem_append_left _ (List.mem_append_left _ (List.mem_append_left _ (List.mem_append_left _ (List.mem_append_left _ (List.mem_append_left _ (List.mem_append_left _ (List.mem_append_right _ (List.mem_append_right _ (List.mem_append_right _ (List.mem_append_right _ (List.mem_append_right _ (List.mem_append_right _ (List.mem_append_right _ (List.mem_append_right _ (List.mem_append_right _ (List.mem_append_right _ (List.mem_append_right _ (List.mem_append_right _ (List.mem_append_right _ (List.mem_append_right _ (List.mem_append_right _ (List.mem_append_right _ (List.mem_append_right _ (List.mem_append_right _ (List.mem_append_right _ (List.mem_append_left _ h)))))))))))))))))))))))))))))
theorem kR21 (w : Cond) (h : w ∈ wsL_law0_r21) : w ∈ wsL_law := kR w (List.mem_append_left _ (List.mem_append_left _ (List.mem_append_left _ (List.mem_append_left _ (List.mem_append_left _ (List.mem_append_left _ (List.mem_append_left _ (List.mem_append_left _ (List.mem_append_left _ (List.mem_append_right _ (List.mem_append_right _ (List.mem_append_right _ (List.mem_append_right _ (List.mem_append_right _ (List.mem_append_right _ (List.mem_append_right _ (List.mem_append_right _ (List.mem_append_right _ (List.mem_append_right _ (List.mem_append_right _ (List.mem_append_right _ (List.mem_append_right _ (List.mem_append_right _ (List.mem_append_right _ (List.mem_append_right _ (List.mem_append_right _ (List.mem_append_right _ (List.mem_append_right _ (List.mem_append_right _ (List.mem_append_left _ h))))))))))))))))))))))))))))))
theorem kR22 (w : Cond) (h : w ∈ wsL_law0_r22) : w ∈ wsL_law := kR w (List.mem_append_left _ (List.mem_append_left _ (List.mem_append_left _ (List.mem_append_left _ (List.mem_append_left _ (List.mem_append_left _ (List.mem_append_left _ (List.mem_append_left _ (List.mem_append_left _ (List.mem_append_right _ (List.mem_append_right _ (List.mem_append_right _ (List.mem_append_right _ (List.mem_append_right _ (List.mem_append_right _ (List.mem_append_right _ (List.mem_append_right _ (List.mem_append_right _ (List.mem_append_right _ (List.mem_append_right _ (List.mem_append_right _ (List.mem_append_right _ (List.mem_append_right _ (List.mem_append_right _ (List.mem_append_right _ (List.mem_append_right _ (List.mem_append_right _ (List.mem_append_right _ (List.mem_append_right _ (List.mem_append_right _ (List.mem_append_left _ h)))))))))))))))))))))))))))))))
theorem kR23 (w : Cond) (h : w ∈ wsL_law0_r23) : w ∈ wsL_law := kR w (List.mem_append_left _ (List.mem_append_left _ (List.mem_append_left _ (List.mem_append_left _ (List.mem_append_left _ (List.mem_append_left _ (List.mem_append_left _ (List.mem_append_left _ (List.mem_append_left _ (List.mem_append_right _ (List.mem_append_right _ (List.mem_append_right _ (List.mem_append_right _ (List.mem_append_right _ (List.mem_append_right _ (List.mem_append_right _ (List.mem_append_right _ (List.mem_append_right _ (List.mem_append_right _ (List.mem_append_right _ (List.mem_append_right _ (List.mem_append_right _ (List.mem_append_right _ (List.mem_append_right _ (List.mem_append_right _ (List.mem_append_right _ (List.mem_append_right _ (List.mem_append_right _ (List.mem_append_right _ (List.mem_append_right _ (List.mem_append_right _ (List.mem_append_left _ h))))))))))))))))))))))))))))))))
theorem kR24 (w : Cond) (h : w ∈ wsL_law0_r24) : w ∈ wsL_law := kR w (List.mem_append_left _ (List.mem_append_left _ (List.mem_append_left _ (List.mem_append_left _ (List.mem_append_left _ (List.mem_append_left _ (List.mem_append_left _ (List.mem_append_left _ (List.mem_append_left _ (List.mem_append_right _ (List.mem_append_right _ (List.mem_append_right _ (List.mem_append_right _ (List.mem_append_right _ (List.mem_append_right _ (List.mem_append_right _ (List.mem_append_right _ (List.mem_append_right _ (List.mem_append_right _ (List.mem_append_right _ (List.mem_append_right _ (List.mem_append_right _ (List.mem_append_right _ (List.mem_append_right _ (List.mem_append_right _ (List.mem_append_right _ (List.mem_append_right _ (List.mem_append_right _ (List.mem_append_right _ (List.mem_append_right _ (List.mem_append_right _ (List.mem_append_right _ (List.mem_append_left _ h)))))))))))))))))))))))))))))))))
theorem kR25 (w : Cond) (h : w ∈ wsL_law0_r25) : w ∈ wsL_law := kR w (List.mem_append_left _ (List.mem_append_left _ (List.mem_append_left _ (List.mem_append_left _ (List.mem_append_left _ (List.mem_append_left _ (List.mem_append_left _ (List.mem_append_left _ (List.mem_append_left _ (List.mem_append_right _ (List.mem_append_right _ (List.mem_append_right _ (List.mem_append_right _ (List.mem_append_right _ (List.mem_append_right _ (List.mem_append_right _ (List.mem_append_right _ (List.mem_append_right _ (List.mem_append_right _ (List.mem_append_right _ (List.mem_append_right _ (List.mem_append_right _ (List.mem_append_right _ (List.mem_append_right _ (List.mem_append_right _ (List.mem_append_right _ (List.mem_append_right _ (List.mem_append_right _ (List.mem_append_right _ (List.mem_append_right _ (List.mem_append_right _ (List.mem_append_right _ (List.mem_append_right _ (List.mem_append_left _ h))))))))))))))))))))))))))))))))))
theorem kR26 (w : Cond) (h : w ∈ wsL_law0_r26) : w ∈ wsL_law := kR w (List.mem_append_left _ (List.mem_append_left _ (List.mem_append_left _ (List.mem_append_left _ (List.mem_append_left _ (List.mem_append_left _ (List.mem_append_left _ (List.mem_append_left _ (List.mem_append_left _ (List.mem_append_right _ (List.mem_append_right _ (List.mem_append_right _ (List.mem_append_right _ (List.mem_append_right _ (List.mem_append_right _ (List.mem_append_right _ (List.mem_append_right _ (List.mem_append_right _ (List.mem_append_right _ (List.mem_append_right _ (List.mem_append_right _ (List.mem_append_right _ (List.mem_append_right _ (List.mem_append_right _ (List.mem_append_right _ (List.mem_append_right _ (List.mem_append_right _ (List.mem_append_right _ (List.mem_append_right _ (List.mem_append_right _ (List.mem_append_right _ (List.mem_append_right _ (List.mem_append_right _ (List.mem_append_right _ (List.mem_append_left _ h)))))))))))))))))))))))))))))))))))
theorem kR27 (w : Cond) (h : w ∈ wsL_law0_r27) : w ∈ wsL_law := kR w (List.mem_append_left _ (List.mem_append_left _ (List.mem_append_left _ (List.mem_append_left _ (List.mem_append_left _ (List.mem_append_left _ (List.mem_append_left _ (List.mem_append_left _ (List.mem_append_left _ (List.mem_append_right _ (List.mem_append_right _ (List.mem_append_right _ (List.mem_append_right _ (List.mem_append_right _ (List.mem_append_right _ (List.mem_append_right _ (List.mem_append_right _ (List.mem_append_right _ (List.mem_append_right _ (List.mem_append_right _ (List.mem_append_right _ (List.mem_append_right _ (List.mem_append_right _ (List.mem_append_right _ (List.mem_append_right _ (List.mem_append_right _ (List.mem_append_right _ (List.mem_append_right _ (List.mem_append_right _ (List.mem_append_right _ (List.mem_append_right _ (List.mem_append_right _ (List.mem_append_right _ (List.mem_append_right _ (List.mem_append_right _ (List.mem_append_left _ h))))))))))))))))))))))))))))))))))))
theorem kR28 (w : Cond) (h : w ∈ wsL_law0_r28) : w ∈ wsL_law := kR w (List.mem_append_left _ (List.mem_append_left _ (List.mem_append_left _ (List.mem_append_left _ (List.mem_append_left _ (List.mem_append_left _ (List.mem_append_left _ (List.mem_append_left _ (List.mem_append_left _ (List.mem_append_right _ (List.mem_append_right _ (List.mem_append_right _ (List.mem_append_right _ (List.mem_append_right _ (List.mem_append_right _ (List.mem_append_right _ (List.mem_append_right _ (List.mem_append_right _ (List.mem_append_right _ (List.mem_append_right _ (List.mem_append_right _ (List.mem_append_right _ (List.mem_append_right _ (List.mem_append_right _ (List.mem_append_right _ (List.mem_append_right _ (List.mem_append_right _ (List.mem_append_right _ (List.mem_append_right _ (List.mem_append_right _ (List.mem_append_right _ (List.mem_append_right _ (List.mem_append_right _ (List.mem_append_right _ (List.mem_append_right _ (List.mem_append_right _ (List.mem_append_left _ h)))))))))))))))))))))))))))))))))))))
theorem kR29 (w : Cond) (h : w ∈ wsL_law0_r29) : w ∈ wsL_law := kR w (List.mem_append_left _ (List.mem_append_left _ (List.mem_append_left _ (List.mem_append_left _ (List.mem_append_left _ (List.mem_append_left _ (List.mem_append_left _ (List.mem_append_left _ (List.mem_append_left _ (List.mem_append_right _ (List.mem_append_right _ (List.mem_append_right _ (List.mem_append_right _ (List.mem_append_right _ (List.mem_append_right _ (List.mem_append_right _ (List.mem_append_right _ (List.mem_append_right _ (List.mem_append_right _ (List.mem_append_right _ (List.mem_append_right _ (List.mem_append_right _ (List.mem_append_right _ (List.mem_append_right _ (List.mem_append_right _ (List.mem_append_right _ (List.mem_append_right _ (List.mem_append_right _ (List.mem_append_right _ (List.mem_append_right _ (List.mem_append_right _ (List.mem_append_right _ (List.mem_append_right _ (List.mem_append_right _ (List.mem_append_right _ (List.mem_append_right _ (List.mem_append_right _ (List.mem_append_left _ h))))))))))))))))))))))))))))))))))))))
theorem kR30 (w : Cond) (h : w ∈ wsL_law0_r30) : w ∈ wsL_law := kR w (List.mem_append_left _ (List.mem_append_left _ (List.mem_append_left _ (List.mem_append_left _ (List.mem_append_left _ (List.mem_append_left _ (List.mem_append_left _ (List.mem_append_left _ (List.mem_append_left _ (List.mem_append_right _ (List.mem_append_right _ (List.mem_append_right _ (List.mem_append_right _ (List.mem_append_right _ (List.mem_append_right _ (List.mem_append_right _ (List.mem_append_right _ (List.mem_append_right _ (List.mem_append_right _ (List.mem_append_right _ (List.mem_append_right _ (List.mem_append_right _ (List.mem_append_right _ (List.mem_append_right _ (List.mem_append_right _ (List.mem_append_right _ (List.mem_append_right _ (List.mem_append_right _ (List.mem_append_right _ (List.mem_append_right _ (List.mem_append_right _ (List.mem_append_right _ (List.mem_append_right _ (List.mem_append_right _ (List.mem_append_right _ (List.mem_append_right _ (List.mem_append_right _ (List.mem_append_right _ (List.mem_append_left _ h)))))))))))))))))))))))))))))))))))))))
theorem kR31 (w : Cond) (h : w ∈ wsL_law0_r31) : w ∈ wsL_law := kR w (List.mem_append_left _ (List.mem_append_left _ (List.mem_append_left _ (List.mem_append_left _ (List.mem_append_left _ (List.mem_append_left _ (List.mem_append_left _ (List.mem_append_left _ (List.mem_append_left _ (List.mem_append_right _ (List.mem_append_right _ (List.mem_append_right _ (List.mem_append_right _ (List.mem_append_right _ (List.mem_append_right _ (List.mem_append_right _ (List.mem_append_right _ (List.mem_append_right _ (List.mem_append_right _ (List.mem_append_right _ (List.mem_append_right _ (List.mem_append_right _ (List.mem_append_right _ (List.mem_append_right _ (List.mem_append_right _ (List.mem_append_right _ (List.mem_append_right _ (List.mem_append_right _ (List.mem_append_right _ (List.mem_append_right _ (List.mem_append_right _ (List.mem_append_right _ (List.mem_append_right _ (List.mem_append_right _ (List.mem_append_right _ (List.mem_append_right _ (List.mem_append_right _ (List.mem_append_right _ (List.mem_append_right _ h)))))))))))))))))))))))))))))))))))))))
theorem kQ_L_8 : Cond.classLink RL 8 RX6 ∈ wsL_law := kR1 _ (List.mem_of_getElem? (i := 0) rfl)
theorem kB_RX6 : Cond.instantiable RX6 2 ∈ wsL_law := kR1 _ (List.mem_of_getElem? (i := 1) rfl)
theorem kZ_RX6 : Cond.initialized RX6 ∈ wsL_law := kR1 _ (List.mem_of_getElem? (i := 2) rfl)
theorem kQ_L_77 : Cond.classLink RL 77 RX7 ∈ wsL_law := kR1 _ (List.mem_of_getElem? (i := 3) rfl)
theorem kB_RX7 : Cond.instantiable RX7 21 ∈ wsL_law := kR1 _ (List.mem_of_getElem? (i := 4) rfl)
theorem kZ_RX7 : Cond.initialized RX7 ∈ wsL_law := kR1 _ (List.mem_of_getElem? (i := 5) rfl)
theorem kA_long : Cond.arrayClass .long ∈ wsL_law := kR1 _ (List.mem_of_getElem? (i := 6) rfl)
theorem kM_L_76 : Cond.methodLink RL 76 yX6_init ∈ wsL_law := kR1 _ (List.mem_of_getElem? (i := 7) rfl)
theorem kI_yX6_init : Cond.instanceMethod yX6_init ∈ wsL_law := kR1 _ (List.mem_of_getElem? (i := 8) rfl)
theorem kC_yX6_init : Cond.code yX6_init cX6_init 1 none ∈ wsL_law := kR1 _ (List.mem_of_getElem? (i := 9) rfl)
theorem kM_X6_1 : Cond.methodLink RX6 1 objectInit ∈ wsL_law := kR1 _ (List.mem_of_getElem? (i := 10) rfl)
theorem kI_objectInit : Cond.instanceMethod objectInit ∈ wsL_law := kR1 _ (List.mem_of_getElem? (i := 11) rfl)
theorem kC_objectInit : Cond.code objectInit ⟨#[0xb1]⟩ 1 none ∈ wsL_law := kR1 _ (List.mem_of_getElem? (i := 12) rfl)
theorem kQ_X6_7 : Cond.classLink RX6 7 RX0 ∈ wsL_law := kR1 _ (List.mem_of_getElem? (i := 13) rfl)
theorem kB_RX0 : Cond.instantiable RX0 11 ∈ wsL_law := kR1 _ (List.mem_of_getElem? (i := 14) rfl)
theorem kZ_RX0 : Cond.initialized RX0 ∈ wsL_law := kR1 _ (List.mem_of_getElem? (i := 15) rfl)
theorem kF_X6_10 : Cond.fieldLink RX6 10 "Steamfield" "now" "LSteamfield$Field;" ∈ wsL_law := kR1 _ (List.mem_of_getElem? (i := 16) rfl)
theorem kF_X6_16 : Cond.fieldLink RX6 16 "Steamfield" "later" "LSteamfield$Field;" ∈ wsL_law := kR1 _ (List.mem_of_getElem? (i := 17) rfl)
theorem kI_yX0_init : Cond.instanceMethod yX0_init ∈ wsL_law := kR1 _ (List.mem_of_getElem? (i := 18) rfl)
theorem kC_yX0_init : Cond.code yX0_init cX0_init 1 none ∈ wsL_law := kR1 _ (List.mem_of_getElem? (i := 19) rfl)
theorem kM_X0_3 : Cond.methodLink RX0 3 objectInit ∈ wsL_law := kR1 _ (List.mem_of_getElem? (i := 20) rfl)
theorem kF_X0_9 : Cond.fieldLink RX0 9 "Steamfield$Field" "month" "I" ∈ wsL_law := kR1 _ (List.mem_of_getElem? (i := 21) rfl)
theorem kF_X0_15 : Cond.fieldLink RX0 15 "Steamfield$Field" "rainfall" "I" ∈ wsL_law := kR1 _ (List.mem_of_getElem? (i := 22) rfl)
theorem kQ_X0_18 : Cond.classLink RX0 18 RX1 ∈ wsL_law := kR1 _ (List.mem_of_getElem? (i := 23) rfl)
theorem kB_RX1 : Cond.instantiable RX1 9 ∈ wsL_law := kR2 _ (List.mem_of_getElem? (i := 0) rfl)
theorem kZ_RX1 : Cond.initialized RX1 ∈ wsL_law := kR2 _ (List.mem_of_getElem? (i := 1) rfl)
theorem kF_X0_21 : Cond.fieldLink RX0 21 "Steamfield$Field" "ground" "LSteamfield$Ground;" ∈ wsL_law := kR2 _ (List.mem_of_getElem? (i := 2) rfl)
theorem kQ_X0_25 : Cond.classLink RX0 25 RX5 ∈ wsL_law := kR2 _ (List.mem_of_getElem? (i := 3) rfl)
theorem kB_RX5 : Cond.instantiable RX5 9 ∈ wsL_law := kR2 _ (List.mem_of_getElem? (i := 4) rfl)
theorem kZ_RX5 : Cond.initialized RX5 ∈ wsL_law := kR2 _ (List.mem_of_getElem? (i := 5) rfl)
theorem kF_X0_28 : Cond.fieldLink RX0 28 "Steamfield$Field" "wells" "LSteamfield$Wells;" ∈ wsL_law := kR2 _ (List.mem_of_getElem? (i := 6) rfl)
theorem kQ_X0_32 : Cond.classLink RX0 32 RX4 ∈ wsL_law := kR2 _ (List.mem_of_getElem? (i := 7) rfl)
theorem kB_RX4 : Cond.instantiable RX4 3 ∈ wsL_law := kR2 _ (List.mem_of_getElem? (i := 8) rfl)
theorem kZ_RX4 : Cond.initialized RX4 ∈ wsL_law := kR2 _ (List.mem_of_getElem? (i := 9) rfl)
theorem kF_X0_35 : Cond.fieldLink RX0 35 "Steamfield$Field" "uses" "LSteamfield$Uses;" ∈ wsL_law := kR2 _ (List.mem_of_getElem? (i := 10) rfl)
theorem kQ_X0_39 : Cond.classLink RX0 39 RX3 ∈ wsL_law := kR2 _ (List.mem_of_getElem? (i := 11) rfl)
theorem kB_RX3 : Cond.instantiable RX3 7 ∈ wsL_law := kR2 _ (List.mem_of_getElem? (i := 12) rfl)
theorem kZ_RX3 : Cond.initialized RX3 ∈ wsL_law := kR2 _ (List.mem_of_getElem? (i := 13) rfl)
theorem kF_X0_42 : Cond.fieldLink RX0 42 "Steamfield$Field" "springs" "LSteamfield$Springs;" ∈ wsL_law := kR2 _ (List.mem_of_getElem? (i := 14) rfl)
theorem kQ_X0_46 : Cond.classLink RX0 46 RX2 ∈ wsL_law := kR2 _ (List.mem_of_getElem? (i := 15) rfl)
theorem kB_RX2 : Cond.instantiable RX2 4 ∈ wsL_law := kR2 _ (List.mem_of_getElem? (i := 16) rfl)
theorem kZ_RX2 : Cond.initialized RX2 ∈ wsL_law := kR2 _ (List.mem_of_getElem? (i := 17) rfl)
theorem kF_X0_49 : Cond.fieldLink RX0 49 "Steamfield$Field" "quakes" "LSteamfield$Quakes;" ∈ wsL_law := kR2 _ (List.mem_of_getElem? (i := 18) rfl)
theorem kF_X0_53 : Cond.fieldLink RX0 53 "Steamfield$Field" "sums" "[J" ∈ wsL_law := kR2 _ (List.mem_of_getElem? (i := 19) rfl)
theorem kF_X0_57 : Cond.fieldLink RX0 57 "Steamfield$Field" "brine" "J" ∈ wsL_law := kR2 _ (List.mem_of_getElem? (i := 20) rfl)
theorem kF_X0_61 : Cond.fieldLink RX0 61 "Steamfield$Field" "brineHeat" "J" ∈ wsL_law := kR2 _ (List.mem_of_getElem? (i := 21) rfl)
theorem kF_X0_64 : Cond.fieldLink RX0 64 "Steamfield$Field" "brineDegrees" "J" ∈ wsL_law := kR2 _ (List.mem_of_getElem? (i := 22) rfl)
theorem kM_X0_20 : Cond.methodLink RX0 20 yX1_init ∈ wsL_law := kR2 _ (List.mem_of_getElem? (i := 23) rfl)
theorem kI_yX1_init : Cond.instanceMethod yX1_init ∈ wsL_law := kR3 _ (List.mem_of_getElem? (i := 0) rfl)
theorem kC_yX1_init : Cond.code yX1_init cX1_init 2 none ∈ wsL_law := kR3 _ (List.mem_of_getElem? (i := 1) rfl)
theorem kM_X1_3 : Cond.methodLink RX1 3 objectInit ∈ wsL_law := kR3 _ (List.mem_of_getElem? (i := 2) rfl)
theorem kF_X1_9 : Cond.fieldLink RX1 9 "Steamfield$Ground" "water" "[J" ∈ wsL_law := kR3 _ (List.mem_of_getElem? (i := 3) rfl)
theorem kF_X1_15 : Cond.fieldLink RX1 15 "Steamfield$Ground" "heat" "[J" ∈ wsL_law := kR3 _ (List.mem_of_getElem? (i := 4) rfl)
theorem kF_X1_18 : Cond.fieldLink RX1 18 "Steamfield$Ground" "tracer" "[J" ∈ wsL_law := kR3 _ (List.mem_of_getElem? (i := 5) rfl)
theorem kF_X1_21 : Cond.fieldLink RX1 21 "Steamfield$Ground" "strain" "[J" ∈ wsL_law := kR3 _ (List.mem_of_getElem? (i := 6) rfl)
theorem kA_int : Cond.arrayClass .int ∈ wsL_law := kR3 _ (List.mem_of_getElem? (i := 7) rfl)
theorem kF_X1_24 : Cond.fieldLink RX1 24 "Steamfield$Ground" "widthBeside" "[I" ∈ wsL_law := kR3 _ (List.mem_of_getElem? (i := 8) rfl)
theorem kF_X1_28 : Cond.fieldLink RX1 28 "Steamfield$Ground" "widthBelow" "[I" ∈ wsL_law := kR3 _ (List.mem_of_getElem? (i := 9) rfl)
theorem kF_X1_31 : Cond.fieldLink RX1 31 "Steamfield$Ground" "waterAhead" "[J" ∈ wsL_law := kR3 _ (List.mem_of_getElem? (i := 10) rfl)
theorem kF_X1_34 : Cond.fieldLink RX1 34 "Steamfield$Ground" "degreesAhead" "[J" ∈ wsL_law := kR3 _ (List.mem_of_getElem? (i := 11) rfl)
theorem kF_X1_37 : Cond.fieldLink RX1 37 "Steamfield$Ground" "tracerAhead" "[J" ∈ wsL_law := kR3 _ (List.mem_of_getElem? (i := 12) rfl)
theorem kM_X1_40 : Cond.methodLink RX1 40 yX1_fill ∈ wsL_law := kR3 _ (List.mem_of_getElem? (i := 13) rfl)
theorem kI_yX1_fill : Cond.instanceMethod yX1_fill ∈ wsL_law := kR3 _ (List.mem_of_getElem? (i := 14) rfl)
theorem kS_yX1_fill : Cond.selects RX1 yX1_fill yX1_fill ∈ wsL_law := kR3 _ (List.mem_of_getElem? (i := 15) rfl)
theorem kC_yX1_fill : Cond.code yX1_fill cX1_fill 4 none ∈ wsL_law := kR3 _ (List.mem_of_getElem? (i := 16) rfl)
theorem kI_yX5_init : Cond.instanceMethod yX5_init ∈ wsL_law := kR3 _ (List.mem_of_getElem? (i := 17) rfl)
theorem kC_yX5_init : Cond.code yX5_init cX5_init 1 none ∈ wsL_law := kR3 _ (List.mem_of_getElem? (i := 18) rfl)
theorem kM_X5_3 : Cond.methodLink RX5 3 objectInit ∈ wsL_law := kR3 _ (List.mem_of_getElem? (i := 19) rfl)
theorem kF_X5_9 : Cond.fieldLink RX5 9 "Steamfield$Wells" "size" "I" ∈ wsL_law := kR3 _ (List.mem_of_getElem? (i := 20) rfl)
theorem kF_X5_15 : Cond.fieldLink RX5 15 "Steamfield$Wells" "place" "[I" ∈ wsL_law := kR3 _ (List.mem_of_getElem? (i := 21) rfl)
theorem kA_boolean : Cond.arrayClass .boolean ∈ wsL_law := kR3 _ (List.mem_of_getElem? (i := 22) rfl)
theorem kF_X5_19 : Cond.fieldLink RX5 19 "Steamfield$Wells" "returns" "[Z" ∈ wsL_law := kR3 _ (List.mem_of_getElem? (i := 23) rfl)
theorem kF_X5_23 : Cond.fieldLink RX5 23 "Steamfield$Wells" "setting" "[I" ∈ wsL_law := kR4 _ (List.mem_of_getElem? (i := 0) rfl)
theorem kF_X5_26 : Cond.fieldLink RX5 26 "Steamfield$Wells" "scale" "[I" ∈ wsL_law := kR4 _ (List.mem_of_getElem? (i := 1) rfl)
theorem kF_X5_29 : Cond.fieldLink RX5 29 "Steamfield$Wells" "moved" "[J" ∈ wsL_law := kR4 _ (List.mem_of_getElem? (i := 2) rfl)
theorem kF_X5_33 : Cond.fieldLink RX5 33 "Steamfield$Wells" "shut" "[Z" ∈ wsL_law := kR4 _ (List.mem_of_getElem? (i := 3) rfl)
theorem kF_X5_36 : Cond.fieldLink RX5 36 "Steamfield$Wells" "found" "[J" ∈ wsL_law := kR4 _ (List.mem_of_getElem? (i := 4) rfl)
theorem kF_X5_39 : Cond.fieldLink RX5 39 "Steamfield$Wells" "foundFirst" "[I" ∈ wsL_law := kR4 _ (List.mem_of_getElem? (i := 5) rfl)
theorem kI_yX4_init : Cond.instanceMethod yX4_init ∈ wsL_law := kR4 _ (List.mem_of_getElem? (i := 6) rfl)
theorem kC_yX4_init : Cond.code yX4_init cX4_init 1 none ∈ wsL_law := kR4 _ (List.mem_of_getElem? (i := 7) rfl)
theorem kM_X4_3 : Cond.methodLink RX4 3 objectInit ∈ wsL_law := kR4 _ (List.mem_of_getElem? (i := 8) rfl)
theorem kF_X4_9 : Cond.fieldLink RX4 9 "Steamfield$Uses" "size" "I" ∈ wsL_law := kR4 _ (List.mem_of_getElem? (i := 9) rfl)
theorem kF_X4_15 : Cond.fieldLink RX4 15 "Steamfield$Uses" "least" "[I" ∈ wsL_law := kR4 _ (List.mem_of_getElem? (i := 10) rfl)
theorem kF_X4_19 : Cond.fieldLink RX4 19 "Steamfield$Uses" "drop" "[I" ∈ wsL_law := kR4 _ (List.mem_of_getElem? (i := 11) rfl)
theorem kI_yX3_init : Cond.instanceMethod yX3_init ∈ wsL_law := kR4 _ (List.mem_of_getElem? (i := 12) rfl)
theorem kC_yX3_init : Cond.code yX3_init cX3_init 1 none ∈ wsL_law := kR4 _ (List.mem_of_getElem? (i := 13) rfl)
theorem kM_X3_3 : Cond.methodLink RX3 3 objectInit ∈ wsL_law := kR4 _ (List.mem_of_getElem? (i := 14) rfl)
theorem kF_X3_9 : Cond.fieldLink RX3 9 "Steamfield$Springs" "size" "I" ∈ wsL_law := kR4 _ (List.mem_of_getElem? (i := 15) rfl)
theorem kF_X3_15 : Cond.fieldLink RX3 15 "Steamfield$Springs" "place" "[I" ∈ wsL_law := kR4 _ (List.mem_of_getElem? (i := 16) rfl)
theorem kF_X3_19 : Cond.fieldLink RX3 19 "Steamfield$Springs" "level" "[I" ∈ wsL_law := kR4 _ (List.mem_of_getElem? (i := 17) rfl)
theorem kF_X3_22 : Cond.fieldLink RX3 22 "Steamfield$Springs" "promised" "[I" ∈ wsL_law := kR4 _ (List.mem_of_getElem? (i := 18) rfl)
theorem kF_X3_25 : Cond.fieldLink RX3 25 "Steamfield$Springs" "gave" "[J" ∈ wsL_law := kR4 _ (List.mem_of_getElem? (i := 19) rfl)
theorem kF_X3_29 : Cond.fieldLink RX3 29 "Steamfield$Springs" "dryMonths" "[I" ∈ wsL_law := kR4 _ (List.mem_of_getElem? (i := 20) rfl)
theorem kF_X3_32 : Cond.fieldLink RX3 32 "Steamfield$Springs" "accounts" "[J" ∈ wsL_law := kR4 _ (List.mem_of_getElem? (i := 21) rfl)
theorem kI_yX2_init : Cond.instanceMethod yX2_init ∈ wsL_law := kR4 _ (List.mem_of_getElem? (i := 22) rfl)
theorem kC_yX2_init : Cond.code yX2_init cX2_init 1 none ∈ wsL_law := kR4 _ (List.mem_of_getElem? (i := 23) rfl)
theorem kM_X2_3 : Cond.methodLink RX2 3 objectInit ∈ wsL_law := kR5 _ (List.mem_of_getElem? (i := 0) rfl)
theorem kF_X2_9 : Cond.fieldLink RX2 9 "Steamfield$Quakes" "all" "I" ∈ wsL_law := kR5 _ (List.mem_of_getElem? (i := 1) rfl)
theorem kF_X2_15 : Cond.fieldLink RX2 15 "Steamfield$Quakes" "months" "[I" ∈ wsL_law := kR5 _ (List.mem_of_getElem? (i := 2) rfl)
theorem kF_X2_19 : Cond.fieldLink RX2 19 "Steamfield$Quakes" "blocks" "[I" ∈ wsL_law := kR5 _ (List.mem_of_getElem? (i := 3) rfl)
theorem kF_X2_22 : Cond.fieldLink RX2 22 "Steamfield$Quakes" "sizes" "[I" ∈ wsL_law := kR5 _ (List.mem_of_getElem? (i := 4) rfl)
theorem kM_L_79 : Cond.methodLink RL 79 yX7_init ∈ wsL_law := kR5 _ (List.mem_of_getElem? (i := 5) rfl)
theorem kI_yX7_init : Cond.instanceMethod yX7_init ∈ wsL_law := kR5 _ (List.mem_of_getElem? (i := 6) rfl)
theorem kC_yX7_init : Cond.code yX7_init cX7_init 2 none ∈ wsL_law := kR5 _ (List.mem_of_getElem? (i := 7) rfl)
theorem kM_X7_1 : Cond.methodLink RX7 1 objectInit ∈ wsL_law := kR5 _ (List.mem_of_getElem? (i := 8) rfl)
theorem kF_X7_7 : Cond.fieldLink RX7 7 "SteamfieldModel" "a" "[J" ∈ wsL_law := kR5 _ (List.mem_of_getElem? (i := 9) rfl)
theorem kF_X7_13 : Cond.fieldLink RX7 13 "SteamfieldModel" "kept" "[J" ∈ wsL_law := kR5 _ (List.mem_of_getElem? (i := 10) rfl)
theorem kF_X7_16 : Cond.fieldLink RX7 16 "SteamfieldModel" "right" "[I" ∈ wsL_law := kR5 _ (List.mem_of_getElem? (i := 11) rfl)
theorem kF_X7_20 : Cond.fieldLink RX7 20 "SteamfieldModel" "down" "[I" ∈ wsL_law := kR5 _ (List.mem_of_getElem? (i := 12) rfl)
theorem kF_X7_23 : Cond.fieldLink RX7 23 "SteamfieldModel" "wellIn" "[I" ∈ wsL_law := kR5 _ (List.mem_of_getElem? (i := 13) rfl)
theorem kF_X7_26 : Cond.fieldLink RX7 26 "SteamfieldModel" "isReturn" "[Z" ∈ wsL_law := kR5 _ (List.mem_of_getElem? (i := 14) rfl)
theorem kF_X7_30 : Cond.fieldLink RX7 30 "SteamfieldModel" "much" "[I" ∈ wsL_law := kR5 _ (List.mem_of_getElem? (i := 15) rfl)
theorem kF_X7_33 : Cond.fieldLink RX7 33 "SteamfieldModel" "part" "[J" ∈ wsL_law := kR5 _ (List.mem_of_getElem? (i := 16) rfl)
theorem kF_X7_36 : Cond.fieldLink RX7 36 "SteamfieldModel" "least" "[I" ∈ wsL_law := kR5 _ (List.mem_of_getElem? (i := 17) rfl)
theorem kF_X7_39 : Cond.fieldLink RX7 39 "SteamfieldModel" "drop" "[I" ∈ wsL_law := kR5 _ (List.mem_of_getElem? (i := 18) rfl)
theorem kF_X7_42 : Cond.fieldLink RX7 42 "SteamfieldModel" "springIn" "[I" ∈ wsL_law := kR5 _ (List.mem_of_getElem? (i := 19) rfl)
theorem kF_X7_45 : Cond.fieldLink RX7 45 "SteamfieldModel" "level" "[I" ∈ wsL_law := kR5 _ (List.mem_of_getElem? (i := 20) rfl)
theorem kF_X7_48 : Cond.fieldLink RX7 48 "SteamfieldModel" "promise" "[I" ∈ wsL_law := kR5 _ (List.mem_of_getElem? (i := 21) rfl)
theorem kF_X7_51 : Cond.fieldLink RX7 51 "SteamfieldModel" "comesWater" "[J" ∈ wsL_law := kR5 _ (List.mem_of_getElem? (i := 22) rfl)
theorem kF_X7_54 : Cond.fieldLink RX7 54 "SteamfieldModel" "comesHeat" "[J" ∈ wsL_law := kR5 _ (List.mem_of_getElem? (i := 23) rfl)
theorem kF_X7_57 : Cond.fieldLink RX7 57 "SteamfieldModel" "comesTracer" "[J" ∈ wsL_law := kR6 _ (List.mem_of_getElem? (i := 0) rfl)
theorem kL_X7_60 : Cond.constantLong RX7 60 (10000) ∈ wsL_law := kR6 _ (List.mem_of_getElem? (i := 1) rfl)
theorem kL_X7_62 : Cond.constantLong RX7 62 (6000000) ∈ wsL_law := kR6 _ (List.mem_of_getElem? (i := 2) rfl)
theorem kM_L_80 : Cond.methodLink RL 80 yL_block ∈ wsL_law := kR6 _ (List.mem_of_getElem? (i := 3) rfl)
theorem kT_yL_block : Cond.static yL_block ∈ wsL_law := kR6 _ (List.mem_of_getElem? (i := 4) rfl)
theorem kZ_RL : Cond.initialized RL ∈ wsL_law := kR6 _ (List.mem_of_getElem? (i := 5) rfl)
theorem kW_yL_block : Cond.codeWith yL_block cL_block 6 (some .int) [(0, 12, 15, 13), (0, 12, 19, 15), (0, 12, 23, 17)] ∈ wsL_law := kR6 _ (List.mem_of_getElem? (i := 6) rfl)
theorem kQ_L_13 : Cond.classLink RL 13 "java/lang/IndexOutOfBoundsException" ∈ wsL_law := kR6 _ (List.mem_of_getElem? (i := 7) rfl)
theorem kQ_L_15 : Cond.classLink RL 15 "java/lang/IllegalArgumentException" ∈ wsL_law := kR6 _ (List.mem_of_getElem? (i := 8) rfl)
theorem kQ_L_17 : Cond.classLink RL 17 "java/lang/IllegalStateException" ∈ wsL_law := kR6 _ (List.mem_of_getElem? (i := 9) rfl)
theorem kM_L_7 : Cond.methodLink RL 7 yX6_block ∈ wsL_law := kR6 _ (List.mem_of_getElem? (i := 10) rfl)
theorem kI_yX6_block : Cond.instanceMethod yX6_block ∈ wsL_law := kR6 _ (List.mem_of_getElem? (i := 11) rfl)
theorem kS_yX6_block : Cond.selects RX6 yX6_block yX6_block ∈ wsL_law := kR6 _ (List.mem_of_getElem? (i := 12) rfl)
theorem kC_yX6_block : Cond.code yX6_block cX6_block 5 (some .int) ∈ wsL_law := kR6 _ (List.mem_of_getElem? (i := 13) rfl)
theorem kN_X6_23 : Cond.constant RX6 23 (50000) ∈ wsL_law := kR6 _ (List.mem_of_getElem? (i := 14) rfl)
theorem kF_X6_28 : Cond.fieldLink RX6 28 "Steamfield$Field" "month" "I" ∈ wsL_law := kR6 _ (List.mem_of_getElem? (i := 15) rfl)
theorem kF_X6_36 : Cond.fieldLink RX6 36 "Steamfield$Field" "ground" "LSteamfield$Ground;" ∈ wsL_law := kR6 _ (List.mem_of_getElem? (i := 16) rfl)
theorem kF_X6_40 : Cond.fieldLink RX6 40 "Steamfield$Ground" "water" "[J" ∈ wsL_law := kR6 _ (List.mem_of_getElem? (i := 17) rfl)
theorem kM_X6_19 : Cond.methodLink RX6 19 yX6_requireIndex ∈ wsL_law := kR6 _ (List.mem_of_getElem? (i := 18) rfl)
theorem kT_yX6_requireIndex : Cond.static yX6_requireIndex ∈ wsL_law := kR6 _ (List.mem_of_getElem? (i := 19) rfl)
theorem kC_yX6_requireIndex : Cond.code yX6_requireIndex cX6_requireIndex 2 none ∈ wsL_law := kR6 _ (List.mem_of_getElem? (i := 20) rfl)
theorem kQ_X6_153 : Cond.classLink RX6 153 "java/lang/IndexOutOfBoundsException" ∈ wsL_law := kR6 _ (List.mem_of_getElem? (i := 21) rfl)
theorem kZ_IndexOutOfBoundsException : Cond.initialized "java/lang/IndexOutOfBoundsException" ∈ wsL_law := kR6 _ (List.mem_of_getElem? (i := 22) rfl)
theorem kM_X6_24 : Cond.methodLink RX6 24 yX6_requireRange ∈ wsL_law := kR6 _ (List.mem_of_getElem? (i := 23) rfl)
theorem kT_yX6_requireRange : Cond.static yX6_requireRange ∈ wsL_law := kR7 _ (List.mem_of_getElem? (i := 0) rfl)
theorem kC_yX6_requireRange : Cond.code yX6_requireRange cX6_requireRange 3 none ∈ wsL_law := kR7 _ (List.mem_of_getElem? (i := 1) rfl)
theorem kM_X6_53 : Cond.methodLink RX6 53 yX6_requireArgument ∈ wsL_law := kR7 _ (List.mem_of_getElem? (i := 2) rfl)
theorem kT_yX6_requireArgument : Cond.static yX6_requireArgument ∈ wsL_law := kR7 _ (List.mem_of_getElem? (i := 3) rfl)
theorem kC_yX6_requireArgument : Cond.code yX6_requireArgument cX6_requireArgument 1 none ∈ wsL_law := kR7 _ (List.mem_of_getElem? (i := 4) rfl)
theorem kQ_X6_160 : Cond.classLink RX6 160 "java/lang/IllegalArgumentException" ∈ wsL_law := kR7 _ (List.mem_of_getElem? (i := 5) rfl)
theorem kZ_IllegalArgumentException : Cond.initialized "java/lang/IllegalArgumentException" ∈ wsL_law := kR7 _ (List.mem_of_getElem? (i := 6) rfl)
theorem kM_X6_32 : Cond.methodLink RX6 32 yX6_requireState ∈ wsL_law := kR7 _ (List.mem_of_getElem? (i := 7) rfl)
theorem kT_yX6_requireState : Cond.static yX6_requireState ∈ wsL_law := kR7 _ (List.mem_of_getElem? (i := 8) rfl)
theorem kC_yX6_requireState : Cond.code yX6_requireState cX6_requireState 1 none ∈ wsL_law := kR7 _ (List.mem_of_getElem? (i := 9) rfl)
theorem kQ_X6_165 : Cond.classLink RX6 165 "java/lang/IllegalStateException" ∈ wsL_law := kR7 _ (List.mem_of_getElem? (i := 10) rfl)
theorem kZ_IllegalStateException : Cond.initialized "java/lang/IllegalStateException" ∈ wsL_law := kR7 _ (List.mem_of_getElem? (i := 11) rfl)
theorem kM_X6_46 : Cond.methodLink RX6 46 yX1_fill ∈ wsL_law := kR7 _ (List.mem_of_getElem? (i := 12) rfl)
theorem kM_L_85 : Cond.methodLink RL 85 yX7_block ∈ wsL_law := kR7 _ (List.mem_of_getElem? (i := 13) rfl)
theorem kI_yX7_block : Cond.instanceMethod yX7_block ∈ wsL_law := kR7 _ (List.mem_of_getElem? (i := 14) rfl)
theorem kS_yX7_block : Cond.selects RX7 yX7_block yX7_block ∈ wsL_law := kR7 _ (List.mem_of_getElem? (i := 15) rfl)
theorem kC_yX7_block : Cond.code yX7_block cX7_block 5 (some .int) ∈ wsL_law := kR7 _ (List.mem_of_getElem? (i := 16) rfl)
theorem kN_X7_95 : Cond.constant RX7 95 (50000) ∈ wsL_law := kR7 _ (List.mem_of_getElem? (i := 17) rfl)
theorem kF_X7_64 : Cond.fieldLink RX7 64 "SteamfieldModel" "thrown" "I" ∈ wsL_law := kR7 _ (List.mem_of_getElem? (i := 18) rfl)
theorem kM_X7_91 : Cond.methodLink RX7 91 yX7_isBlock ∈ wsL_law := kR7 _ (List.mem_of_getElem? (i := 19) rfl)
theorem kT_yX7_isBlock : Cond.static yX7_isBlock ∈ wsL_law := kR7 _ (List.mem_of_getElem? (i := 20) rfl)
theorem kC_yX7_isBlock : Cond.code yX7_isBlock cX7_isBlock 1 (some .boolean) ∈ wsL_law := kR7 _ (List.mem_of_getElem? (i := 21) rfl)
theorem kM_X7_68 : Cond.methodLink RX7 68 yX7_in ∈ wsL_law := kR7 _ (List.mem_of_getElem? (i := 22) rfl)
theorem kT_yX7_in : Cond.static yX7_in ∈ wsL_law := kR7 _ (List.mem_of_getElem? (i := 23) rfl)
theorem kC_yX7_in : Cond.code yX7_in cX7_in 3 (some .boolean) ∈ wsL_law := kR8 _ (List.mem_of_getElem? (i := 0) rfl)
theorem kM_L_86 : Cond.methodLink RL 86 yX7_thrown ∈ wsL_law := kR8 _ (List.mem_of_getElem? (i := 1) rfl)
theorem kI_yX7_thrown : Cond.instanceMethod yX7_thrown ∈ wsL_law := kR8 _ (List.mem_of_getElem? (i := 2) rfl)
theorem kS_yX7_thrown : Cond.selects RX7 yX7_thrown yX7_thrown ∈ wsL_law := kR8 _ (List.mem_of_getElem? (i := 3) rfl)
theorem kC_yX7_thrown : Cond.code yX7_thrown cX7_thrown 1 (some .int) ∈ wsL_law := kR8 _ (List.mem_of_getElem? (i := 4) rfl)
theorem kM_L_90 : Cond.methodLink RL 90 yL_crack ∈ wsL_law := kR8 _ (List.mem_of_getElem? (i := 5) rfl)
theorem kT_yL_crack : Cond.static yL_crack ∈ wsL_law := kR8 _ (List.mem_of_getElem? (i := 6) rfl)
theorem kW_yL_crack : Cond.codeWith yL_crack cL_crack 6 (some .int) [(0, 12, 15, 13), (0, 12, 19, 15)] ∈ wsL_law := kR8 _ (List.mem_of_getElem? (i := 7) rfl)
theorem kM_L_19 : Cond.methodLink RL 19 yX6_crack ∈ wsL_law := kR8 _ (List.mem_of_getElem? (i := 8) rfl)
theorem kI_yX6_crack : Cond.instanceMethod yX6_crack ∈ wsL_law := kR8 _ (List.mem_of_getElem? (i := 9) rfl)
theorem kS_yX6_crack : Cond.selects RX6 yX6_crack yX6_crack ∈ wsL_law := kR8 _ (List.mem_of_getElem? (i := 10) rfl)
theorem kC_yX6_crack : Cond.code yX6_crack cX6_crack 4 (some .int) ∈ wsL_law := kR8 _ (List.mem_of_getElem? (i := 11) rfl)
theorem kM_X6_49 : Cond.methodLink RX6 49 yX6_areNeighbours ∈ wsL_law := kR8 _ (List.mem_of_getElem? (i := 12) rfl)
theorem kT_yX6_areNeighbours : Cond.static yX6_areNeighbours ∈ wsL_law := kR8 _ (List.mem_of_getElem? (i := 13) rfl)
theorem kC_yX6_areNeighbours : Cond.code yX6_areNeighbours cX6_areNeighbours 3 (some .boolean) ∈ wsL_law := kR8 _ (List.mem_of_getElem? (i := 14) rfl)
theorem kM_X6_56 : Cond.methodLink RX6 56 yX1_setWidth ∈ wsL_law := kR8 _ (List.mem_of_getElem? (i := 15) rfl)
theorem kI_yX1_setWidth : Cond.instanceMethod yX1_setWidth ∈ wsL_law := kR8 _ (List.mem_of_getElem? (i := 16) rfl)
theorem kS_yX1_setWidth : Cond.selects RX1 yX1_setWidth yX1_setWidth ∈ wsL_law := kR8 _ (List.mem_of_getElem? (i := 17) rfl)
theorem kC_yX1_setWidth : Cond.code yX1_setWidth cX1_setWidth 7 (some .int) ∈ wsL_law := kR8 _ (List.mem_of_getElem? (i := 18) rfl)
theorem kM_X1_44 : Cond.methodLink RX1 44 Lib.Math.min.name ∈ wsL_law := kR8 _ (List.mem_of_getElem? (i := 19) rfl)
theorem kT_min : Cond.static Lib.Math.min.name ∈ wsL_law := kR8 _ (List.mem_of_getElem? (i := 20) rfl)
theorem kZ_Math : Cond.initialized "java/lang/Math" ∈ wsL_law := kR8 _ (List.mem_of_getElem? (i := 21) rfl)
theorem kC_min : Cond.code Lib.Math.min.name Lib.Math.min.code 2 (some .int) ∈ wsL_law := kR8 _ (List.mem_of_getElem? (i := 22) rfl)
theorem kM_L_92 : Cond.methodLink RL 92 yX7_crack ∈ wsL_law := kR8 _ (List.mem_of_getElem? (i := 23) rfl)
theorem kI_yX7_crack : Cond.instanceMethod yX7_crack ∈ wsL_law := kR9 _ (List.mem_of_getElem? (i := 0) rfl)
theorem kS_yX7_crack : Cond.selects RX7 yX7_crack yX7_crack ∈ wsL_law := kR9 _ (List.mem_of_getElem? (i := 1) rfl)
theorem kC_yX7_crack : Cond.code yX7_crack cX7_crack 7 (some .int) ∈ wsL_law := kR9 _ (List.mem_of_getElem? (i := 2) rfl)
theorem kM_X7_82 : Cond.methodLink RX7 82 yX7_areNeighbours ∈ wsL_law := kR9 _ (List.mem_of_getElem? (i := 3) rfl)
theorem kT_yX7_areNeighbours : Cond.static yX7_areNeighbours ∈ wsL_law := kR9 _ (List.mem_of_getElem? (i := 4) rfl)
theorem kC_yX7_areNeighbours : Cond.code yX7_areNeighbours cX7_areNeighbours 2 (some .boolean) ∈ wsL_law := kR9 _ (List.mem_of_getElem? (i := 5) rfl)
theorem kM_X7_78 : Cond.methodLink RX7 78 yX7_isRight ∈ wsL_law := kR9 _ (List.mem_of_getElem? (i := 6) rfl)
theorem kT_yX7_isRight : Cond.static yX7_isRight ∈ wsL_law := kR9 _ (List.mem_of_getElem? (i := 7) rfl)
theorem kC_yX7_isRight : Cond.code yX7_isRight cX7_isRight 2 (some .boolean) ∈ wsL_law := kR9 _ (List.mem_of_getElem? (i := 8) rfl)
theorem kM_L_93 : Cond.methodLink RL 93 yL_rain ∈ wsL_law := kR9 _ (List.mem_of_getElem? (i := 9) rfl)
theorem kT_yL_rain : Cond.static yL_rain ∈ wsL_law := kR9 _ (List.mem_of_getElem? (i := 10) rfl)
theorem kW_yL_rain : Cond.codeWith yL_rain cL_rain 4 (some .int) [(0, 9, 12, 15)] ∈ wsL_law := kR9 _ (List.mem_of_getElem? (i := 11) rfl)
theorem kM_L_22 : Cond.methodLink RL 22 yX6_rain ∈ wsL_law := kR9 _ (List.mem_of_getElem? (i := 12) rfl)
theorem kI_yX6_rain : Cond.instanceMethod yX6_rain ∈ wsL_law := kR9 _ (List.mem_of_getElem? (i := 13) rfl)
theorem kS_yX6_rain : Cond.selects RX6 yX6_rain yX6_rain ∈ wsL_law := kR9 _ (List.mem_of_getElem? (i := 14) rfl)
theorem kC_yX6_rain : Cond.code yX6_rain cX6_rain 3 (some .int) ∈ wsL_law := kR9 _ (List.mem_of_getElem? (i := 15) rfl)
theorem kF_X6_60 : Cond.fieldLink RX6 60 "Steamfield$Field" "rainfall" "I" ∈ wsL_law := kR9 _ (List.mem_of_getElem? (i := 16) rfl)
theorem kM_L_96 : Cond.methodLink RL 96 yX7_rain ∈ wsL_law := kR9 _ (List.mem_of_getElem? (i := 17) rfl)
theorem kI_yX7_rain : Cond.instanceMethod yX7_rain ∈ wsL_law := kR9 _ (List.mem_of_getElem? (i := 18) rfl)
theorem kS_yX7_rain : Cond.selects RX7 yX7_rain yX7_rain ∈ wsL_law := kR9 _ (List.mem_of_getElem? (i := 19) rfl)
theorem kC_yX7_rain : Cond.code yX7_rain cX7_rain 3 (some .int) ∈ wsL_law := kR9 _ (List.mem_of_getElem? (i := 20) rfl)
theorem kF_X7_96 : Cond.fieldLink RX7 96 "SteamfieldModel" "rain" "I" ∈ wsL_law := kR9 _ (List.mem_of_getElem? (i := 21) rfl)
theorem kM_L_97 : Cond.methodLink RL 97 yL_well ∈ wsL_law := kR9 _ (List.mem_of_getElem? (i := 22) rfl)
theorem kT_yL_well : Cond.static yL_well ∈ wsL_law := kR9 _ (List.mem_of_getElem? (i := 23) rfl)
theorem kW_yL_well : Cond.codeWith yL_well cL_well 5 (some .int) [(0, 10, 13, 13), (0, 10, 17, 17)] ∈ wsL_law := kR10 _ (List.mem_of_getElem? (i := 0) rfl)
theorem kM_L_26 : Cond.methodLink RL 26 yX6_well ∈ wsL_law := kR10 _ (List.mem_of_getElem? (i := 1) rfl)
theorem kI_yX6_well : Cond.instanceMethod yX6_well ∈ wsL_law := kR10 _ (List.mem_of_getElem? (i := 2) rfl)
theorem kS_yX6_well : Cond.selects RX6 yX6_well yX6_well ∈ wsL_law := kR10 _ (List.mem_of_getElem? (i := 3) rfl)
theorem kC_yX6_well : Cond.code yX6_well cX6_well 3 (some .int) ∈ wsL_law := kR10 _ (List.mem_of_getElem? (i := 4) rfl)
theorem kF_X6_63 : Cond.fieldLink RX6 63 "Steamfield$Field" "wells" "LSteamfield$Wells;" ∈ wsL_law := kR10 _ (List.mem_of_getElem? (i := 5) rfl)
theorem kF_X6_67 : Cond.fieldLink RX6 67 "Steamfield$Wells" "size" "I" ∈ wsL_law := kR10 _ (List.mem_of_getElem? (i := 6) rfl)
theorem kM_X6_72 : Cond.methodLink RX6 72 yX5_drill ∈ wsL_law := kR10 _ (List.mem_of_getElem? (i := 7) rfl)
theorem kI_yX5_drill : Cond.instanceMethod yX5_drill ∈ wsL_law := kR10 _ (List.mem_of_getElem? (i := 8) rfl)
theorem kS_yX5_drill : Cond.selects RX5 yX5_drill yX5_drill ∈ wsL_law := kR10 _ (List.mem_of_getElem? (i := 9) rfl)
theorem kC_yX5_drill : Cond.code yX5_drill cX5_drill 4 (some .int) ∈ wsL_law := kR10 _ (List.mem_of_getElem? (i := 10) rfl)
theorem kM_L_100 : Cond.methodLink RL 100 yX7_well ∈ wsL_law := kR10 _ (List.mem_of_getElem? (i := 11) rfl)
theorem kI_yX7_well : Cond.instanceMethod yX7_well ∈ wsL_law := kR10 _ (List.mem_of_getElem? (i := 12) rfl)
theorem kS_yX7_well : Cond.selects RX7 yX7_well yX7_well ∈ wsL_law := kR10 _ (List.mem_of_getElem? (i := 13) rfl)
theorem kC_yX7_well : Cond.code yX7_well cX7_well 3 (some .int) ∈ wsL_law := kR10 _ (List.mem_of_getElem? (i := 14) rfl)
theorem kF_X7_72 : Cond.fieldLink RX7 72 "SteamfieldModel" "wells" "I" ∈ wsL_law := kR10 _ (List.mem_of_getElem? (i := 15) rfl)
theorem kL_X7_99 : Cond.constantLong RX7 99 (-1) ∈ wsL_law := kR10 _ (List.mem_of_getElem? (i := 16) rfl)
theorem kM_L_101 : Cond.methodLink RL 101 yL_open ∈ wsL_law := kR10 _ (List.mem_of_getElem? (i := 17) rfl)
theorem kT_yL_open : Cond.static yL_open ∈ wsL_law := kR10 _ (List.mem_of_getElem? (i := 18) rfl)
theorem kW_yL_open : Cond.codeWith yL_open cL_open 5 (some .int) [(0, 10, 13, 13), (0, 10, 17, 15)] ∈ wsL_law := kR10 _ (List.mem_of_getElem? (i := 19) rfl)
theorem kM_L_30 : Cond.methodLink RL 30 yX6_open ∈ wsL_law := kR10 _ (List.mem_of_getElem? (i := 20) rfl)
theorem kI_yX6_open : Cond.instanceMethod yX6_open ∈ wsL_law := kR10 _ (List.mem_of_getElem? (i := 21) rfl)
theorem kS_yX6_open : Cond.selects RX6 yX6_open yX6_open ∈ wsL_law := kR10 _ (List.mem_of_getElem? (i := 22) rfl)
theorem kC_yX6_open : Cond.code yX6_open cX6_open 4 (some .int) ∈ wsL_law := kR10 _ (List.mem_of_getElem? (i := 23) rfl)
theorem kF_X6_76 : Cond.fieldLink RX6 76 "Steamfield$Wells" "returns" "[Z" ∈ wsL_law := kR11 _ (List.mem_of_getElem? (i := 0) rfl)
theorem kF_X6_80 : Cond.fieldLink RX6 80 "Steamfield$Wells" "setting" "[I" ∈ wsL_law := kR11 _ (List.mem_of_getElem? (i := 1) rfl)
theorem kM_L_104 : Cond.methodLink RL 104 yX7_open ∈ wsL_law := kR11 _ (List.mem_of_getElem? (i := 2) rfl)
theorem kI_yX7_open : Cond.instanceMethod yX7_open ∈ wsL_law := kR11 _ (List.mem_of_getElem? (i := 3) rfl)
theorem kS_yX7_open : Cond.selects RX7 yX7_open yX7_open ∈ wsL_law := kR11 _ (List.mem_of_getElem? (i := 4) rfl)
theorem kC_yX7_open : Cond.code yX7_open cX7_open 4 (some .int) ∈ wsL_law := kR11 _ (List.mem_of_getElem? (i := 5) rfl)
theorem kM_X7_101 : Cond.methodLink RX7 101 yX7_isWell ∈ wsL_law := kR11 _ (List.mem_of_getElem? (i := 6) rfl)
theorem kI_yX7_isWell : Cond.instanceMethod yX7_isWell ∈ wsL_law := kR11 _ (List.mem_of_getElem? (i := 7) rfl)
theorem kS_yX7_isWell : Cond.selects RX7 yX7_isWell yX7_isWell ∈ wsL_law := kR11 _ (List.mem_of_getElem? (i := 8) rfl)
theorem kC_yX7_isWell : Cond.code yX7_isWell cX7_isWell 2 (some .boolean) ∈ wsL_law := kR11 _ (List.mem_of_getElem? (i := 9) rfl)
theorem kM_L_105 : Cond.methodLink RL 105 yL_clean ∈ wsL_law := kR11 _ (List.mem_of_getElem? (i := 10) rfl)
theorem kT_yL_clean : Cond.static yL_clean ∈ wsL_law := kR11 _ (List.mem_of_getElem? (i := 11) rfl)
theorem kW_yL_clean : Cond.codeWith yL_clean cL_clean 4 (some .int) [(0, 9, 12, 13), (0, 9, 15, 17)] ∈ wsL_law := kR11 _ (List.mem_of_getElem? (i := 12) rfl)
theorem kM_L_34 : Cond.methodLink RL 34 yX6_clean ∈ wsL_law := kR11 _ (List.mem_of_getElem? (i := 13) rfl)
theorem kI_yX6_clean : Cond.instanceMethod yX6_clean ∈ wsL_law := kR11 _ (List.mem_of_getElem? (i := 14) rfl)
theorem kS_yX6_clean : Cond.selects RX6 yX6_clean yX6_clean ∈ wsL_law := kR11 _ (List.mem_of_getElem? (i := 15) rfl)
theorem kC_yX6_clean : Cond.code yX6_clean cX6_clean 3 (some .int) ∈ wsL_law := kR11 _ (List.mem_of_getElem? (i := 16) rfl)
theorem kF_X6_84 : Cond.fieldLink RX6 84 "Steamfield$Wells" "scale" "[I" ∈ wsL_law := kR11 _ (List.mem_of_getElem? (i := 17) rfl)
theorem kM_L_107 : Cond.methodLink RL 107 yX7_clean ∈ wsL_law := kR11 _ (List.mem_of_getElem? (i := 18) rfl)
theorem kI_yX7_clean : Cond.instanceMethod yX7_clean ∈ wsL_law := kR11 _ (List.mem_of_getElem? (i := 19) rfl)
theorem kS_yX7_clean : Cond.selects RX7 yX7_clean yX7_clean ∈ wsL_law := kR11 _ (List.mem_of_getElem? (i := 20) rfl)
theorem kC_yX7_clean : Cond.code yX7_clean cX7_clean 3 (some .int) ∈ wsL_law := kR11 _ (List.mem_of_getElem? (i := 21) rfl)
theorem kM_L_108 : Cond.methodLink RL 108 yL_use ∈ wsL_law := kR11 _ (List.mem_of_getElem? (i := 22) rfl)
theorem kT_yL_use : Cond.static yL_use ∈ wsL_law := kR11 _ (List.mem_of_getElem? (i := 23) rfl)
theorem kW_yL_use : Cond.codeWith yL_use cL_use 5 (some .int) [(0, 10, 13, 15), (0, 10, 17, 17)] ∈ wsL_law := kR12 _ (List.mem_of_getElem? (i := 0) rfl)
theorem kM_L_37 : Cond.methodLink RL 37 yX6_use ∈ wsL_law := kR12 _ (List.mem_of_getElem? (i := 1) rfl)
theorem kI_yX6_use : Cond.instanceMethod yX6_use ∈ wsL_law := kR12 _ (List.mem_of_getElem? (i := 2) rfl)
theorem kS_yX6_use : Cond.selects RX6 yX6_use yX6_use ∈ wsL_law := kR12 _ (List.mem_of_getElem? (i := 3) rfl)
theorem kC_yX6_use : Cond.code yX6_use cX6_use 3 (some .int) ∈ wsL_law := kR12 _ (List.mem_of_getElem? (i := 4) rfl)
theorem kF_X6_87 : Cond.fieldLink RX6 87 "Steamfield$Field" "uses" "LSteamfield$Uses;" ∈ wsL_law := kR12 _ (List.mem_of_getElem? (i := 5) rfl)
theorem kF_X6_91 : Cond.fieldLink RX6 91 "Steamfield$Uses" "size" "I" ∈ wsL_law := kR12 _ (List.mem_of_getElem? (i := 6) rfl)
theorem kM_X6_94 : Cond.methodLink RX6 94 yX4_add ∈ wsL_law := kR12 _ (List.mem_of_getElem? (i := 7) rfl)
theorem kI_yX4_add : Cond.instanceMethod yX4_add ∈ wsL_law := kR12 _ (List.mem_of_getElem? (i := 8) rfl)
theorem kS_yX4_add : Cond.selects RX4 yX4_add yX4_add ∈ wsL_law := kR12 _ (List.mem_of_getElem? (i := 9) rfl)
theorem kC_yX4_add : Cond.code yX4_add cX4_add 4 (some .int) ∈ wsL_law := kR12 _ (List.mem_of_getElem? (i := 10) rfl)
theorem kM_L_110 : Cond.methodLink RL 110 yX7_use ∈ wsL_law := kR12 _ (List.mem_of_getElem? (i := 11) rfl)
theorem kI_yX7_use : Cond.instanceMethod yX7_use ∈ wsL_law := kR12 _ (List.mem_of_getElem? (i := 12) rfl)
theorem kS_yX7_use : Cond.selects RX7 yX7_use yX7_use ∈ wsL_law := kR12 _ (List.mem_of_getElem? (i := 13) rfl)
theorem kC_yX7_use : Cond.code yX7_use cX7_use 3 (some .int) ∈ wsL_law := kR12 _ (List.mem_of_getElem? (i := 14) rfl)
theorem kF_X7_104 : Cond.fieldLink RX7 104 "SteamfieldModel" "uses" "I" ∈ wsL_law := kR12 _ (List.mem_of_getElem? (i := 15) rfl)
theorem kM_L_111 : Cond.methodLink RL 111 yL_spring ∈ wsL_law := kR12 _ (List.mem_of_getElem? (i := 16) rfl)
theorem kT_yL_spring : Cond.static yL_spring ∈ wsL_law := kR12 _ (List.mem_of_getElem? (i := 17) rfl)
theorem kW_yL_spring : Cond.codeWith yL_spring cL_spring 6 (some .int) [(0, 12, 15, 13), (0, 12, 19, 15), (0, 12, 23, 17)] ∈ wsL_law := kR12 _ (List.mem_of_getElem? (i := 18) rfl)
theorem kM_L_40 : Cond.methodLink RL 40 yX6_spring ∈ wsL_law := kR12 _ (List.mem_of_getElem? (i := 19) rfl)
theorem kI_yX6_spring : Cond.instanceMethod yX6_spring ∈ wsL_law := kR12 _ (List.mem_of_getElem? (i := 20) rfl)
theorem kS_yX6_spring : Cond.selects RX6 yX6_spring yX6_spring ∈ wsL_law := kR12 _ (List.mem_of_getElem? (i := 21) rfl)
theorem kC_yX6_spring : Cond.code yX6_spring cX6_spring 4 (some .int) ∈ wsL_law := kR12 _ (List.mem_of_getElem? (i := 22) rfl)
theorem kF_X6_98 : Cond.fieldLink RX6 98 "Steamfield$Field" "springs" "LSteamfield$Springs;" ∈ wsL_law := kR12 _ (List.mem_of_getElem? (i := 23) rfl)
theorem kF_X6_102 : Cond.fieldLink RX6 102 "Steamfield$Springs" "size" "I" ∈ wsL_law := kR13 _ (List.mem_of_getElem? (i := 0) rfl)
theorem kM_X6_105 : Cond.methodLink RX6 105 yX3_add ∈ wsL_law := kR13 _ (List.mem_of_getElem? (i := 1) rfl)
theorem kI_yX3_add : Cond.instanceMethod yX3_add ∈ wsL_law := kR13 _ (List.mem_of_getElem? (i := 2) rfl)
theorem kS_yX3_add : Cond.selects RX3 yX3_add yX3_add ∈ wsL_law := kR13 _ (List.mem_of_getElem? (i := 3) rfl)
theorem kC_yX3_add : Cond.code yX3_add cX3_add 5 (some .int) ∈ wsL_law := kR13 _ (List.mem_of_getElem? (i := 4) rfl)
theorem kM_L_113 : Cond.methodLink RL 113 yX7_spring ∈ wsL_law := kR13 _ (List.mem_of_getElem? (i := 5) rfl)
theorem kI_yX7_spring : Cond.instanceMethod yX7_spring ∈ wsL_law := kR13 _ (List.mem_of_getElem? (i := 6) rfl)
theorem kS_yX7_spring : Cond.selects RX7 yX7_spring yX7_spring ∈ wsL_law := kR13 _ (List.mem_of_getElem? (i := 7) rfl)
theorem kC_yX7_spring : Cond.code yX7_spring cX7_spring 4 (some .int) ∈ wsL_law := kR13 _ (List.mem_of_getElem? (i := 8) rfl)
theorem kF_X7_75 : Cond.fieldLink RX7 75 "SteamfieldModel" "springs" "I" ∈ wsL_law := kR13 _ (List.mem_of_getElem? (i := 9) rfl)
theorem kM_L_114 : Cond.methodLink RL 114 yL_promise ∈ wsL_law := kR13 _ (List.mem_of_getElem? (i := 10) rfl)
theorem kT_yL_promise : Cond.static yL_promise ∈ wsL_law := kR13 _ (List.mem_of_getElem? (i := 11) rfl)
theorem kW_yL_promise : Cond.codeWith yL_promise cL_promise 5 (some .int) [(0, 10, 13, 13), (0, 10, 17, 15)] ∈ wsL_law := kR13 _ (List.mem_of_getElem? (i := 12) rfl)
theorem kM_L_43 : Cond.methodLink RL 43 yX6_promise ∈ wsL_law := kR13 _ (List.mem_of_getElem? (i := 13) rfl)
theorem kI_yX6_promise : Cond.instanceMethod yX6_promise ∈ wsL_law := kR13 _ (List.mem_of_getElem? (i := 14) rfl)
theorem kS_yX6_promise : Cond.selects RX6 yX6_promise yX6_promise ∈ wsL_law := kR13 _ (List.mem_of_getElem? (i := 15) rfl)
theorem kC_yX6_promise : Cond.code yX6_promise cX6_promise 4 (some .int) ∈ wsL_law := kR13 _ (List.mem_of_getElem? (i := 16) rfl)
theorem kF_X6_107 : Cond.fieldLink RX6 107 "Steamfield$Springs" "promised" "[I" ∈ wsL_law := kR13 _ (List.mem_of_getElem? (i := 17) rfl)
theorem kM_L_116 : Cond.methodLink RL 116 yX7_promise ∈ wsL_law := kR13 _ (List.mem_of_getElem? (i := 18) rfl)
theorem kI_yX7_promise : Cond.instanceMethod yX7_promise ∈ wsL_law := kR13 _ (List.mem_of_getElem? (i := 19) rfl)
theorem kS_yX7_promise : Cond.selects RX7 yX7_promise yX7_promise ∈ wsL_law := kR13 _ (List.mem_of_getElem? (i := 20) rfl)
theorem kC_yX7_promise : Cond.code yX7_promise cX7_promise 4 (some .int) ∈ wsL_law := kR13 _ (List.mem_of_getElem? (i := 21) rfl)
theorem kM_X7_107 : Cond.methodLink RX7 107 yX7_isSpring ∈ wsL_law := kR13 _ (List.mem_of_getElem? (i := 22) rfl)
theorem kI_yX7_isSpring : Cond.instanceMethod yX7_isSpring ∈ wsL_law := kR13 _ (List.mem_of_getElem? (i := 23) rfl)
theorem kS_yX7_isSpring : Cond.selects RX7 yX7_isSpring yX7_isSpring ∈ wsL_law := kR14 _ (List.mem_of_getElem? (i := 0) rfl)
theorem kC_yX7_isSpring : Cond.code yX7_isSpring cX7_isSpring 2 (some .boolean) ∈ wsL_law := kR14 _ (List.mem_of_getElem? (i := 1) rfl)
theorem kM_L_117 : Cond.methodLink RL 117 yL_tracer ∈ wsL_law := kR14 _ (List.mem_of_getElem? (i := 2) rfl)
theorem kT_yL_tracer : Cond.static yL_tracer ∈ wsL_law := kR14 _ (List.mem_of_getElem? (i := 3) rfl)
theorem kW_yL_tracer : Cond.codeWith yL_tracer cL_tracer 5 (some .int) [(0, 9, 12, 13), (0, 9, 16, 15), (0, 9, 20, 17)] ∈ wsL_law := kR14 _ (List.mem_of_getElem? (i := 4) rfl)
theorem kM_L_46 : Cond.methodLink RL 46 yX6_tracer ∈ wsL_law := kR14 _ (List.mem_of_getElem? (i := 5) rfl)
theorem kI_yX6_tracer : Cond.instanceMethod yX6_tracer ∈ wsL_law := kR14 _ (List.mem_of_getElem? (i := 6) rfl)
theorem kS_yX6_tracer : Cond.selects RX6 yX6_tracer yX6_tracer ∈ wsL_law := kR14 _ (List.mem_of_getElem? (i := 7) rfl)
theorem kC_yX6_tracer : Cond.code yX6_tracer cX6_tracer 3 (some .long) ∈ wsL_law := kR14 _ (List.mem_of_getElem? (i := 8) rfl)
theorem kN_X6_110 : Cond.constant RX6 110 (100000) ∈ wsL_law := kR14 _ (List.mem_of_getElem? (i := 9) rfl)
theorem kF_X6_111 : Cond.fieldLink RX6 111 "Steamfield$Ground" "tracer" "[J" ∈ wsL_law := kR14 _ (List.mem_of_getElem? (i := 10) rfl)
theorem kM_L_119 : Cond.methodLink RL 119 yX7_tracer ∈ wsL_law := kR14 _ (List.mem_of_getElem? (i := 11) rfl)
theorem kI_yX7_tracer : Cond.instanceMethod yX7_tracer ∈ wsL_law := kR14 _ (List.mem_of_getElem? (i := 12) rfl)
theorem kS_yX7_tracer : Cond.selects RX7 yX7_tracer yX7_tracer ∈ wsL_law := kR14 _ (List.mem_of_getElem? (i := 13) rfl)
theorem kC_yX7_tracer : Cond.code yX7_tracer cX7_tracer 3 (some .long) ∈ wsL_law := kR14 _ (List.mem_of_getElem? (i := 14) rfl)
theorem kN_X7_110 : Cond.constant RX7 110 (100000) ∈ wsL_law := kR14 _ (List.mem_of_getElem? (i := 15) rfl)
theorem kM_L_120 : Cond.methodLink RL 120 yL_pass ∈ wsL_law := kR14 _ (List.mem_of_getElem? (i := 16) rfl)
theorem kT_yL_pass : Cond.static yL_pass ∈ wsL_law := kR14 _ (List.mem_of_getElem? (i := 17) rfl)
theorem kW_yL_pass : Cond.codeWith yL_pass cL_pass 4 (some .int) [(0, 9, 12, 15), (0, 9, 15, 17)] ∈ wsL_law := kR14 _ (List.mem_of_getElem? (i := 18) rfl)
theorem kM_L_50 : Cond.methodLink RL 50 yX6_pass ∈ wsL_law := kR14 _ (List.mem_of_getElem? (i := 19) rfl)
theorem kI_yX6_pass : Cond.instanceMethod yX6_pass ∈ wsL_law := kR14 _ (List.mem_of_getElem? (i := 20) rfl)
theorem kS_yX6_pass : Cond.selects RX6 yX6_pass yX6_pass ∈ wsL_law := kR14 _ (List.mem_of_getElem? (i := 21) rfl)
theorem kC_yX6_pass : Cond.code yX6_pass cX6_pass 3 (some .int) ∈ wsL_law := kR14 _ (List.mem_of_getElem? (i := 22) rfl)
theorem kM_X6_114 : Cond.methodLink RX6 114 yX0_passMonth ∈ wsL_law := kR14 _ (List.mem_of_getElem? (i := 23) rfl)
theorem kI_yX0_passMonth : Cond.instanceMethod yX0_passMonth ∈ wsL_law := kR15 _ (List.mem_of_getElem? (i := 0) rfl)
theorem kS_yX0_passMonth : Cond.selects RX0 yX0_passMonth yX0_passMonth ∈ wsL_law := kR15 _ (List.mem_of_getElem? (i := 1) rfl)
theorem kC_yX0_passMonth : Cond.code yX0_passMonth cX0_passMonth 1 none ∈ wsL_law := kR15 _ (List.mem_of_getElem? (i := 2) rfl)
theorem kM_X0_83 : Cond.methodLink RX0 83 yX0_shutWells ∈ wsL_law := kR15 _ (List.mem_of_getElem? (i := 3) rfl)
theorem kI_yX0_shutWells : Cond.instanceMethod yX0_shutWells ∈ wsL_law := kR15 _ (List.mem_of_getElem? (i := 4) rfl)
theorem kS_yX0_shutWells : Cond.selects RX0 yX0_shutWells yX0_shutWells ∈ wsL_law := kR15 _ (List.mem_of_getElem? (i := 5) rfl)
theorem kC_yX0_shutWells : Cond.code yX0_shutWells cX0_shutWells 2 none ∈ wsL_law := kR15 _ (List.mem_of_getElem? (i := 6) rfl)
theorem kF_X0_107 : Cond.fieldLink RX0 107 "Steamfield$Wells" "size" "I" ∈ wsL_law := kR15 _ (List.mem_of_getElem? (i := 7) rfl)
theorem kF_X0_110 : Cond.fieldLink RX0 110 "Steamfield$Wells" "moved" "[J" ∈ wsL_law := kR15 _ (List.mem_of_getElem? (i := 8) rfl)
theorem kF_X0_113 : Cond.fieldLink RX0 113 "Steamfield$Wells" "shut" "[Z" ∈ wsL_law := kR15 _ (List.mem_of_getElem? (i := 9) rfl)
theorem kM_X0_117 : Cond.methodLink RX0 117 yX0_mustShut ∈ wsL_law := kR15 _ (List.mem_of_getElem? (i := 10) rfl)
theorem kI_yX0_mustShut : Cond.instanceMethod yX0_mustShut ∈ wsL_law := kR15 _ (List.mem_of_getElem? (i := 11) rfl)
theorem kS_yX0_mustShut : Cond.selects RX0 yX0_mustShut yX0_mustShut ∈ wsL_law := kR15 _ (List.mem_of_getElem? (i := 12) rfl)
theorem kC_yX0_mustShut : Cond.code yX0_mustShut cX0_mustShut 4 (some .boolean) ∈ wsL_law := kR15 _ (List.mem_of_getElem? (i := 13) rfl)
theorem kF_X0_121 : Cond.fieldLink RX0 121 "Steamfield$Wells" "place" "[I" ∈ wsL_law := kR15 _ (List.mem_of_getElem? (i := 14) rfl)
theorem kF_X0_125 : Cond.fieldLink RX0 125 "Steamfield$Wells" "returns" "[Z" ∈ wsL_law := kR15 _ (List.mem_of_getElem? (i := 15) rfl)
theorem kF_X0_132 : Cond.fieldLink RX0 132 "Steamfield$Springs" "size" "I" ∈ wsL_law := kR15 _ (List.mem_of_getElem? (i := 16) rfl)
theorem kF_X0_137 : Cond.fieldLink RX0 137 "Steamfield$Ground" "water" "[J" ∈ wsL_law := kR15 _ (List.mem_of_getElem? (i := 17) rfl)
theorem kF_X0_140 : Cond.fieldLink RX0 140 "Steamfield$Springs" "place" "[I" ∈ wsL_law := kR15 _ (List.mem_of_getElem? (i := 18) rfl)
theorem kF_X0_141 : Cond.fieldLink RX0 141 "Steamfield$Springs" "promised" "[I" ∈ wsL_law := kR15 _ (List.mem_of_getElem? (i := 19) rfl)
theorem kM_X0_128 : Cond.methodLink RX0 128 yX1_light ∈ wsL_law := kR15 _ (List.mem_of_getElem? (i := 20) rfl)
theorem kI_yX1_light : Cond.instanceMethod yX1_light ∈ wsL_law := kR15 _ (List.mem_of_getElem? (i := 21) rfl)
theorem kS_yX1_light : Cond.selects RX1 yX1_light yX1_light ∈ wsL_law := kR15 _ (List.mem_of_getElem? (i := 22) rfl)
theorem kC_yX1_light : Cond.code yX1_light cX1_light 2 (some .int) ∈ wsL_law := kR15 _ (List.mem_of_getElem? (i := 23) rfl)
theorem kL_X1_60 : Cond.constantLong RX1 60 (1000) ∈ wsL_law := kR16 _ (List.mem_of_getElem? (i := 0) rfl)
theorem kL_X1_62 : Cond.constantLong RX1 62 (2000) ∈ wsL_law := kR16 _ (List.mem_of_getElem? (i := 1) rfl)
theorem kM_X0_133 : Cond.methodLink RX0 133 yX3_isNear ∈ wsL_law := kR16 _ (List.mem_of_getElem? (i := 2) rfl)
theorem kI_yX3_isNear : Cond.instanceMethod yX3_isNear ∈ wsL_law := kR16 _ (List.mem_of_getElem? (i := 3) rfl)
theorem kS_yX3_isNear : Cond.selects RX3 yX3_isNear yX3_isNear ∈ wsL_law := kR16 _ (List.mem_of_getElem? (i := 4) rfl)
theorem kC_yX3_isNear : Cond.code yX3_isNear cX3_isNear 3 (some .boolean) ∈ wsL_law := kR16 _ (List.mem_of_getElem? (i := 5) rfl)
theorem kM_X0_86 : Cond.methodLink RX0 86 yX0_drawFromWells ∈ wsL_law := kR16 _ (List.mem_of_getElem? (i := 6) rfl)
theorem kI_yX0_drawFromWells : Cond.instanceMethod yX0_drawFromWells ∈ wsL_law := kR16 _ (List.mem_of_getElem? (i := 7) rfl)
theorem kS_yX0_drawFromWells : Cond.selects RX0 yX0_drawFromWells yX0_drawFromWells ∈ wsL_law := kR16 _ (List.mem_of_getElem? (i := 8) rfl)
theorem kC_yX0_drawFromWells : Cond.code yX0_drawFromWells cX0_drawFromWells 2 none ∈ wsL_law := kR16 _ (List.mem_of_getElem? (i := 9) rfl)
theorem kM_X0_144 : Cond.methodLink RX0 144 yX5_isDrawing ∈ wsL_law := kR16 _ (List.mem_of_getElem? (i := 10) rfl)
theorem kI_yX5_isDrawing : Cond.instanceMethod yX5_isDrawing ∈ wsL_law := kR16 _ (List.mem_of_getElem? (i := 11) rfl)
theorem kS_yX5_isDrawing : Cond.selects RX5 yX5_isDrawing yX5_isDrawing ∈ wsL_law := kR16 _ (List.mem_of_getElem? (i := 12) rfl)
theorem kC_yX5_isDrawing : Cond.code yX5_isDrawing cX5_isDrawing 2 (some .boolean) ∈ wsL_law := kR16 _ (List.mem_of_getElem? (i := 13) rfl)
theorem kM_X0_147 : Cond.methodLink RX0 147 yX0_draw ∈ wsL_law := kR16 _ (List.mem_of_getElem? (i := 14) rfl)
theorem kI_yX0_draw : Cond.instanceMethod yX0_draw ∈ wsL_law := kR16 _ (List.mem_of_getElem? (i := 15) rfl)
theorem kS_yX0_draw : Cond.selects RX0 yX0_draw yX0_draw ∈ wsL_law := kR16 _ (List.mem_of_getElem? (i := 16) rfl)
theorem kC_yX0_draw : Cond.code yX0_draw cX0_draw 9 none ∈ wsL_law := kR16 _ (List.mem_of_getElem? (i := 17) rfl)
theorem kL_X0_158 : Cond.constantLong RX0 158 (10) ∈ wsL_law := kR16 _ (List.mem_of_getElem? (i := 18) rfl)
theorem kM_X0_160 : Cond.methodLink RX0 160 Lib.MathLoose.min_long.x ∈ wsL_law := kR16 _ (List.mem_of_getElem? (i := 19) rfl)
theorem kT_min_long : Cond.static Lib.MathLoose.min_long.x ∈ wsL_law := kR16 _ (List.mem_of_getElem? (i := 20) rfl)
theorem kC_min_long : Cond.code Lib.MathLoose.min_long.x Lib.MathLoose.min_long.code 4 (some .long) ∈ wsL_law := kR16 _ (List.mem_of_getElem? (i := 21) rfl)
theorem kL_X0_166 : Cond.constantLong RX0 166 (100) ∈ wsL_law := kR16 _ (List.mem_of_getElem? (i := 22) rfl)
theorem kL_X0_168 : Cond.constantLong RX0 168 (200) ∈ wsL_law := kR16 _ (List.mem_of_getElem? (i := 23) rfl)
theorem kL_X0_170 : Cond.constantLong RX0 170 (400) ∈ wsL_law := kR17 _ (List.mem_of_getElem? (i := 0) rfl)
theorem kL_X0_180 : Cond.constantLong RX0 180 (60) ∈ wsL_law := kR17 _ (List.mem_of_getElem? (i := 1) rfl)
theorem kM_X0_182 : Cond.methodLink RX0 182 Lib.MathLoose.max_long.x ∈ wsL_law := kR17 _ (List.mem_of_getElem? (i := 2) rfl)
theorem kT_max_long : Cond.static Lib.MathLoose.max_long.x ∈ wsL_law := kR17 _ (List.mem_of_getElem? (i := 3) rfl)
theorem kC_max_long : Cond.code Lib.MathLoose.max_long.x Lib.MathLoose.max_long.code 4 (some .long) ∈ wsL_law := kR17 _ (List.mem_of_getElem? (i := 4) rfl)
theorem kL_X0_185 : Cond.constantLong RX0 185 (160) ∈ wsL_law := kR17 _ (List.mem_of_getElem? (i := 5) rfl)
theorem kM_X0_151 : Cond.methodLink RX0 151 yX1_degrees ∈ wsL_law := kR17 _ (List.mem_of_getElem? (i := 6) rfl)
theorem kI_yX1_degrees : Cond.instanceMethod yX1_degrees ∈ wsL_law := kR17 _ (List.mem_of_getElem? (i := 7) rfl)
theorem kS_yX1_degrees : Cond.selects RX1 yX1_degrees yX1_degrees ∈ wsL_law := kR17 _ (List.mem_of_getElem? (i := 8) rfl)
theorem kC_yX1_degrees : Cond.code yX1_degrees cX1_degrees 2 (some .long) ∈ wsL_law := kR17 _ (List.mem_of_getElem? (i := 9) rfl)
theorem kL_X1_58 : Cond.constantLong RX1 58 (20000) ∈ wsL_law := kR17 _ (List.mem_of_getElem? (i := 10) rfl)
theorem kM_X0_155 : Cond.methodLink RX0 155 yX5_wouldDraw ∈ wsL_law := kR17 _ (List.mem_of_getElem? (i := 11) rfl)
theorem kI_yX5_wouldDraw : Cond.instanceMethod yX5_wouldDraw ∈ wsL_law := kR17 _ (List.mem_of_getElem? (i := 12) rfl)
theorem kS_yX5_wouldDraw : Cond.selects RX5 yX5_wouldDraw yX5_wouldDraw ∈ wsL_law := kR17 _ (List.mem_of_getElem? (i := 13) rfl)
theorem kC_yX5_wouldDraw : Cond.code yX5_wouldDraw cX5_wouldDraw 2 (some .long) ∈ wsL_law := kR17 _ (List.mem_of_getElem? (i := 14) rfl)
theorem kM_X0_172 : Cond.methodLink RX0 172 yX1_give ∈ wsL_law := kR17 _ (List.mem_of_getElem? (i := 15) rfl)
theorem kI_yX1_give : Cond.instanceMethod yX1_give ∈ wsL_law := kR17 _ (List.mem_of_getElem? (i := 16) rfl)
theorem kS_yX1_give : Cond.selects RX1 yX1_give yX1_give ∈ wsL_law := kR17 _ (List.mem_of_getElem? (i := 17) rfl)
theorem kC_yX1_give : Cond.code yX1_give cX1_give 6 (some .long) ∈ wsL_law := kR17 _ (List.mem_of_getElem? (i := 18) rfl)
theorem kM_X1_50 : Cond.methodLink RX1 50 yX1_degrees ∈ wsL_law := kR17 _ (List.mem_of_getElem? (i := 19) rfl)
theorem kM_X0_176 : Cond.methodLink RX0 176 yX5_find ∈ wsL_law := kR17 _ (List.mem_of_getElem? (i := 20) rfl)
theorem kI_yX5_find : Cond.instanceMethod yX5_find ∈ wsL_law := kR17 _ (List.mem_of_getElem? (i := 21) rfl)
theorem kS_yX5_find : Cond.selects RX5 yX5_find yX5_find ∈ wsL_law := kR17 _ (List.mem_of_getElem? (i := 22) rfl)
theorem kC_yX5_find : Cond.code yX5_find cX5_find 5 none ∈ wsL_law := kR17 _ (List.mem_of_getElem? (i := 23) rfl)
theorem kM_X0_187 : Cond.methodLink RX0 187 yX5_growScale ∈ wsL_law := kR18 _ (List.mem_of_getElem? (i := 0) rfl)
theorem kI_yX5_growScale : Cond.instanceMethod yX5_growScale ∈ wsL_law := kR18 _ (List.mem_of_getElem? (i := 1) rfl)
theorem kS_yX5_growScale : Cond.selects RX5 yX5_growScale yX5_growScale ∈ wsL_law := kR18 _ (List.mem_of_getElem? (i := 2) rfl)
theorem kC_yX5_growScale : Cond.code yX5_growScale cX5_growScale 4 none ∈ wsL_law := kR18 _ (List.mem_of_getElem? (i := 3) rfl)
theorem kL_X5_42 : Cond.constantLong RX5 42 (500) ∈ wsL_law := kR18 _ (List.mem_of_getElem? (i := 4) rfl)
theorem kL_X5_44 : Cond.constantLong RX5 44 (100) ∈ wsL_law := kR18 _ (List.mem_of_getElem? (i := 5) rfl)
theorem kM_X5_46 : Cond.methodLink RX5 46 Lib.MathLoose.min_long.x ∈ wsL_law := kR18 _ (List.mem_of_getElem? (i := 6) rfl)
theorem kM_X0_191 : Cond.methodLink RX0 191 yX3_charge ∈ wsL_law := kR18 _ (List.mem_of_getElem? (i := 7) rfl)
theorem kI_yX3_charge : Cond.instanceMethod yX3_charge ∈ wsL_law := kR18 _ (List.mem_of_getElem? (i := 8) rfl)
theorem kS_yX3_charge : Cond.selects RX3 yX3_charge yX3_charge ∈ wsL_law := kR18 _ (List.mem_of_getElem? (i := 9) rfl)
theorem kC_yX3_charge : Cond.code yX3_charge cX3_charge 6 none ∈ wsL_law := kR18 _ (List.mem_of_getElem? (i := 10) rfl)
theorem kM_X3_43 : Cond.methodLink RX3 43 yX3_isNear ∈ wsL_law := kR18 _ (List.mem_of_getElem? (i := 11) rfl)
theorem kM_X0_89 : Cond.methodLink RX0 89 yX0_sellHeat ∈ wsL_law := kR18 _ (List.mem_of_getElem? (i := 12) rfl)
theorem kI_yX0_sellHeat : Cond.instanceMethod yX0_sellHeat ∈ wsL_law := kR18 _ (List.mem_of_getElem? (i := 13) rfl)
theorem kS_yX0_sellHeat : Cond.selects RX0 yX0_sellHeat yX0_sellHeat ∈ wsL_law := kR18 _ (List.mem_of_getElem? (i := 14) rfl)
theorem kC_yX0_sellHeat : Cond.code yX0_sellHeat cX0_sellHeat 4 none ∈ wsL_law := kR18 _ (List.mem_of_getElem? (i := 15) rfl)
theorem kF_X0_195 : Cond.fieldLink RX0 195 "Steamfield$Uses" "size" "I" ∈ wsL_law := kR18 _ (List.mem_of_getElem? (i := 16) rfl)
theorem kF_X0_196 : Cond.fieldLink RX0 196 "Steamfield$Uses" "least" "[I" ∈ wsL_law := kR18 _ (List.mem_of_getElem? (i := 17) rfl)
theorem kF_X0_199 : Cond.fieldLink RX0 199 "Steamfield$Uses" "drop" "[I" ∈ wsL_law := kR18 _ (List.mem_of_getElem? (i := 18) rfl)
theorem kM_X0_92 : Cond.methodLink RX0 92 yX0_giveBack ∈ wsL_law := kR18 _ (List.mem_of_getElem? (i := 19) rfl)
theorem kI_yX0_giveBack : Cond.instanceMethod yX0_giveBack ∈ wsL_law := kR18 _ (List.mem_of_getElem? (i := 20) rfl)
theorem kS_yX0_giveBack : Cond.selects RX0 yX0_giveBack yX0_giveBack ∈ wsL_law := kR18 _ (List.mem_of_getElem? (i := 21) rfl)
theorem kC_yX0_giveBack : Cond.code yX0_giveBack cX0_giveBack 6 none ∈ wsL_law := kR18 _ (List.mem_of_getElem? (i := 22) rfl)
theorem kF_X0_216 : Cond.fieldLink RX0 216 "Steamfield$Ground" "strain" "[J" ∈ wsL_law := kR18 _ (List.mem_of_getElem? (i := 23) rfl)
theorem kM_X0_202 : Cond.methodLink RX0 202 yX5_allWeight ∈ wsL_law := kR19 _ (List.mem_of_getElem? (i := 0) rfl)
theorem kI_yX5_allWeight : Cond.instanceMethod yX5_allWeight ∈ wsL_law := kR19 _ (List.mem_of_getElem? (i := 1) rfl)
theorem kS_yX5_allWeight : Cond.selects RX5 yX5_allWeight yX5_allWeight ∈ wsL_law := kR19 _ (List.mem_of_getElem? (i := 2) rfl)
theorem kC_yX5_allWeight : Cond.code yX5_allWeight cX5_allWeight 4 (some .long) ∈ wsL_law := kR19 _ (List.mem_of_getElem? (i := 3) rfl)
theorem kM_X5_52 : Cond.methodLink RX5 52 yX5_isReturning ∈ wsL_law := kR19 _ (List.mem_of_getElem? (i := 4) rfl)
theorem kI_yX5_isReturning : Cond.instanceMethod yX5_isReturning ∈ wsL_law := kR19 _ (List.mem_of_getElem? (i := 5) rfl)
theorem kS_yX5_isReturning : Cond.selects RX5 yX5_isReturning yX5_isReturning ∈ wsL_law := kR19 _ (List.mem_of_getElem? (i := 6) rfl)
theorem kC_yX5_isReturning : Cond.code yX5_isReturning cX5_isReturning 2 (some .boolean) ∈ wsL_law := kR19 _ (List.mem_of_getElem? (i := 7) rfl)
theorem kM_X0_206 : Cond.methodLink RX0 206 yX5_isReturning ∈ wsL_law := kR19 _ (List.mem_of_getElem? (i := 8) rfl)
theorem kM_X0_209 : Cond.methodLink RX0 209 yX0_part ∈ wsL_law := kR19 _ (List.mem_of_getElem? (i := 9) rfl)
theorem kI_yX0_part : Cond.instanceMethod yX0_part ∈ wsL_law := kR19 _ (List.mem_of_getElem? (i := 10) rfl)
theorem kS_yX0_part : Cond.selects RX0 yX0_part yX0_part ∈ wsL_law := kR19 _ (List.mem_of_getElem? (i := 11) rfl)
theorem kC_yX0_part : Cond.code yX0_part cX0_part 6 (some .long) ∈ wsL_law := kR19 _ (List.mem_of_getElem? (i := 12) rfl)
theorem kF_X0_219 : Cond.fieldLink RX0 219 "Steamfield$Wells" "setting" "[I" ∈ wsL_law := kR19 _ (List.mem_of_getElem? (i := 13) rfl)
theorem kL_X0_222 : Cond.constantLong RX0 222 (2) ∈ wsL_law := kR19 _ (List.mem_of_getElem? (i := 14) rfl)
theorem kM_X0_212 : Cond.methodLink RX0 212 yX1_take ∈ wsL_law := kR19 _ (List.mem_of_getElem? (i := 15) rfl)
theorem kI_yX1_take : Cond.instanceMethod yX1_take ∈ wsL_law := kR19 _ (List.mem_of_getElem? (i := 16) rfl)
theorem kS_yX1_take : Cond.selects RX1 yX1_take yX1_take ∈ wsL_law := kR19 _ (List.mem_of_getElem? (i := 17) rfl)
theorem kC_yX1_take : Cond.code yX1_take cX1_take 6 none ∈ wsL_law := kR19 _ (List.mem_of_getElem? (i := 18) rfl)
theorem kM_X0_95 : Cond.methodLink RX0 95 yX0_shake ∈ wsL_law := kR19 _ (List.mem_of_getElem? (i := 19) rfl)
theorem kI_yX0_shake : Cond.instanceMethod yX0_shake ∈ wsL_law := kR19 _ (List.mem_of_getElem? (i := 20) rfl)
theorem kS_yX0_shake : Cond.selects RX0 yX0_shake yX0_shake ∈ wsL_law := kR19 _ (List.mem_of_getElem? (i := 21) rfl)
theorem kC_yX0_shake : Cond.code yX0_shake cX0_shake 4 none ∈ wsL_law := kR19 _ (List.mem_of_getElem? (i := 22) rfl)
theorem kL_X0_224 : Cond.constantLong RX0 224 (3000) ∈ wsL_law := kR19 _ (List.mem_of_getElem? (i := 23) rfl)
theorem kL_X0_226 : Cond.constantLong RX0 226 (1000) ∈ wsL_law := kR20 _ (List.mem_of_getElem? (i := 0) rfl)
theorem kM_X0_228 : Cond.methodLink RX0 228 yX2_add ∈ wsL_law := kR20 _ (List.mem_of_getElem? (i := 1) rfl)
theorem kI_yX2_add : Cond.instanceMethod yX2_add ∈ wsL_law := kR20 _ (List.mem_of_getElem? (i := 2) rfl)
theorem kS_yX2_add : Cond.selects RX2 yX2_add yX2_add ∈ wsL_law := kR20 _ (List.mem_of_getElem? (i := 3) rfl)
theorem kC_yX2_add : Cond.code yX2_add cX2_add 4 none ∈ wsL_law := kR20 _ (List.mem_of_getElem? (i := 4) rfl)
theorem kM_X0_98 : Cond.methodLink RX0 98 yX1_flowThroughCracks ∈ wsL_law := kR20 _ (List.mem_of_getElem? (i := 5) rfl)
theorem kI_yX1_flowThroughCracks : Cond.instanceMethod yX1_flowThroughCracks ∈ wsL_law := kR20 _ (List.mem_of_getElem? (i := 6) rfl)
theorem kS_yX1_flowThroughCracks : Cond.selects RX1 yX1_flowThroughCracks yX1_flowThroughCracks ∈ wsL_law := kR20 _ (List.mem_of_getElem? (i := 7) rfl)
theorem kC_yX1_flowThroughCracks : Cond.code yX1_flowThroughCracks cX1_flowThroughCracks 2 none ∈ wsL_law := kR20 _ (List.mem_of_getElem? (i := 8) rfl)
theorem kM_X1_68 : Cond.methodLink RX1 68 yX1_flowBetween ∈ wsL_law := kR20 _ (List.mem_of_getElem? (i := 9) rfl)
theorem kI_yX1_flowBetween : Cond.instanceMethod yX1_flowBetween ∈ wsL_law := kR20 _ (List.mem_of_getElem? (i := 10) rfl)
theorem kS_yX1_flowBetween : Cond.selects RX1 yX1_flowBetween yX1_flowBetween ∈ wsL_law := kR20 _ (List.mem_of_getElem? (i := 11) rfl)
theorem kC_yX1_flowBetween : Cond.code yX1_flowBetween cX1_flowBetween 4 none ∈ wsL_law := kR20 _ (List.mem_of_getElem? (i := 12) rfl)
theorem kM_X1_71 : Cond.methodLink RX1 71 yX1_flow ∈ wsL_law := kR20 _ (List.mem_of_getElem? (i := 13) rfl)
theorem kI_yX1_flow : Cond.instanceMethod yX1_flow ∈ wsL_law := kR20 _ (List.mem_of_getElem? (i := 14) rfl)
theorem kS_yX1_flow : Cond.selects RX1 yX1_flow yX1_flow ∈ wsL_law := kR20 _ (List.mem_of_getElem? (i := 15) rfl)
theorem kC_yX1_flow : Cond.code yX1_flow cX1_flow 8 none ∈ wsL_law := kR20 _ (List.mem_of_getElem? (i := 16) rfl)
theorem kM_X1_74 : Cond.methodLink RX1 74 yX1_take ∈ wsL_law := kR20 _ (List.mem_of_getElem? (i := 17) rfl)
theorem kM_X0_101 : Cond.methodLink RX0 101 yX0_rainAndWarm ∈ wsL_law := kR20 _ (List.mem_of_getElem? (i := 18) rfl)
theorem kI_yX0_rainAndWarm : Cond.instanceMethod yX0_rainAndWarm ∈ wsL_law := kR20 _ (List.mem_of_getElem? (i := 19) rfl)
theorem kS_yX0_rainAndWarm : Cond.selects RX0 yX0_rainAndWarm yX0_rainAndWarm ∈ wsL_law := kR20 _ (List.mem_of_getElem? (i := 20) rfl)
theorem kC_yX0_rainAndWarm : Cond.code yX0_rainAndWarm cX0_rainAndWarm 2 none ∈ wsL_law := kR20 _ (List.mem_of_getElem? (i := 21) rfl)
theorem kL_X0_232 : Cond.constantLong RX0 232 (80) ∈ wsL_law := kR20 _ (List.mem_of_getElem? (i := 22) rfl)
theorem kM_X0_234 : Cond.methodLink RX0 234 yX1_warm ∈ wsL_law := kR20 _ (List.mem_of_getElem? (i := 23) rfl)
theorem kI_yX1_warm : Cond.instanceMethod yX1_warm ∈ wsL_law := kR21 _ (List.mem_of_getElem? (i := 0) rfl)
theorem kS_yX1_warm : Cond.selects RX1 yX1_warm yX1_warm ∈ wsL_law := kR21 _ (List.mem_of_getElem? (i := 1) rfl)
theorem kC_yX1_warm : Cond.code yX1_warm cX1_warm 4 none ∈ wsL_law := kR21 _ (List.mem_of_getElem? (i := 2) rfl)
theorem kL_X1_78 : Cond.constantLong RX1 78 (300) ∈ wsL_law := kR21 _ (List.mem_of_getElem? (i := 3) rfl)
theorem kL_X1_80 : Cond.constantLong RX1 80 (50) ∈ wsL_law := kR21 _ (List.mem_of_getElem? (i := 4) rfl)
theorem kM_X0_104 : Cond.methodLink RX0 104 yX0_feedSprings ∈ wsL_law := kR21 _ (List.mem_of_getElem? (i := 5) rfl)
theorem kI_yX0_feedSprings : Cond.instanceMethod yX0_feedSprings ∈ wsL_law := kR21 _ (List.mem_of_getElem? (i := 6) rfl)
theorem kS_yX0_feedSprings : Cond.selects RX0 yX0_feedSprings yX0_feedSprings ∈ wsL_law := kR21 _ (List.mem_of_getElem? (i := 7) rfl)
theorem kC_yX0_feedSprings : Cond.code yX0_feedSprings cX0_feedSprings 7 none ∈ wsL_law := kR21 _ (List.mem_of_getElem? (i := 8) rfl)
theorem kF_X0_237 : Cond.fieldLink RX0 237 "Steamfield$Springs" "level" "[I" ∈ wsL_law := kR21 _ (List.mem_of_getElem? (i := 9) rfl)
theorem kL_X0_240 : Cond.constantLong RX0 240 (50) ∈ wsL_law := kR21 _ (List.mem_of_getElem? (i := 10) rfl)
theorem kM_X0_242 : Cond.methodLink RX0 242 yX3_note ∈ wsL_law := kR21 _ (List.mem_of_getElem? (i := 11) rfl)
theorem kI_yX3_note : Cond.instanceMethod yX3_note ∈ wsL_law := kR21 _ (List.mem_of_getElem? (i := 12) rfl)
theorem kS_yX3_note : Cond.selects RX3 yX3_note yX3_note ∈ wsL_law := kR21 _ (List.mem_of_getElem? (i := 13) rfl)
theorem kC_yX3_note : Cond.code yX3_note cX3_note 4 none ∈ wsL_law := kR21 _ (List.mem_of_getElem? (i := 14) rfl)
theorem kM_X3_46 : Cond.methodLink RX3 46 yX3_clearAccounts ∈ wsL_law := kR21 _ (List.mem_of_getElem? (i := 15) rfl)
theorem kI_yX3_clearAccounts : Cond.instanceMethod yX3_clearAccounts ∈ wsL_law := kR21 _ (List.mem_of_getElem? (i := 16) rfl)
theorem kS_yX3_clearAccounts : Cond.selects RX3 yX3_clearAccounts yX3_clearAccounts ∈ wsL_law := kR21 _ (List.mem_of_getElem? (i := 17) rfl)
theorem kC_yX3_clearAccounts : Cond.code yX3_clearAccounts cX3_clearAccounts 3 none ∈ wsL_law := kR21 _ (List.mem_of_getElem? (i := 18) rfl)
theorem kM_L_122 : Cond.methodLink RL 122 yX7_pass ∈ wsL_law := kR21 _ (List.mem_of_getElem? (i := 19) rfl)
theorem kI_yX7_pass : Cond.instanceMethod yX7_pass ∈ wsL_law := kR21 _ (List.mem_of_getElem? (i := 20) rfl)
theorem kS_yX7_pass : Cond.selects RX7 yX7_pass yX7_pass ∈ wsL_law := kR21 _ (List.mem_of_getElem? (i := 21) rfl)
theorem kC_yX7_pass : Cond.code yX7_pass cX7_pass 3 (some .int) ∈ wsL_law := kR21 _ (List.mem_of_getElem? (i := 22) rfl)
theorem kL_X7_183 : Cond.constantLong RX7 183 (600) ∈ wsL_law := kR21 _ (List.mem_of_getElem? (i := 23) rfl)
theorem kM_X7_185 : Cond.methodLink RX7 185 yX7_month ∈ wsL_law := kR22 _ (List.mem_of_getElem? (i := 0) rfl)
theorem kI_yX7_month : Cond.instanceMethod yX7_month ∈ wsL_law := kR22 _ (List.mem_of_getElem? (i := 1) rfl)
theorem kS_yX7_month : Cond.selects RX7 yX7_month yX7_month ∈ wsL_law := kR22 _ (List.mem_of_getElem? (i := 2) rfl)
theorem kC_yX7_month : Cond.code yX7_month cX7_month 10 none ∈ wsL_law := kR22 _ (List.mem_of_getElem? (i := 3) rfl)
theorem kL_X7_125 : Cond.constantLong RX7 125 (100) ∈ wsL_law := kR22 _ (List.mem_of_getElem? (i := 4) rfl)
theorem kM_X7_161 : Cond.methodLink RX7 161 yX7_shuts ∈ wsL_law := kR22 _ (List.mem_of_getElem? (i := 5) rfl)
theorem kI_yX7_shuts : Cond.instanceMethod yX7_shuts ∈ wsL_law := kR22 _ (List.mem_of_getElem? (i := 6) rfl)
theorem kS_yX7_shuts : Cond.selects RX7 yX7_shuts yX7_shuts ∈ wsL_law := kR22 _ (List.mem_of_getElem? (i := 7) rfl)
theorem kC_yX7_shuts : Cond.code yX7_shuts cX7_shuts 3 none ∈ wsL_law := kR22 _ (List.mem_of_getElem? (i := 8) rfl)
theorem kM_X7_118 : Cond.methodLink RX7 118 yX7_light ∈ wsL_law := kR22 _ (List.mem_of_getElem? (i := 9) rfl)
theorem kI_yX7_light : Cond.instanceMethod yX7_light ∈ wsL_law := kR22 _ (List.mem_of_getElem? (i := 10) rfl)
theorem kS_yX7_light : Cond.selects RX7 yX7_light yX7_light ∈ wsL_law := kR22 _ (List.mem_of_getElem? (i := 11) rfl)
theorem kC_yX7_light : Cond.code yX7_light cX7_light 2 (some .int) ∈ wsL_law := kR22 _ (List.mem_of_getElem? (i := 12) rfl)
theorem kL_X7_87 : Cond.constantLong RX7 87 (1000) ∈ wsL_law := kR22 _ (List.mem_of_getElem? (i := 13) rfl)
theorem kL_X7_89 : Cond.constantLong RX7 89 (2000) ∈ wsL_law := kR22 _ (List.mem_of_getElem? (i := 14) rfl)
theorem kM_X7_122 : Cond.methodLink RX7 122 yX7_isDryNear ∈ wsL_law := kR22 _ (List.mem_of_getElem? (i := 15) rfl)
theorem kI_yX7_isDryNear : Cond.instanceMethod yX7_isDryNear ∈ wsL_law := kR22 _ (List.mem_of_getElem? (i := 16) rfl)
theorem kS_yX7_isDryNear : Cond.selects RX7 yX7_isDryNear yX7_isDryNear ∈ wsL_law := kR22 _ (List.mem_of_getElem? (i := 17) rfl)
theorem kC_yX7_isDryNear : Cond.code yX7_isDryNear cX7_isDryNear 4 (some .boolean) ∈ wsL_law := kR22 _ (List.mem_of_getElem? (i := 18) rfl)
theorem kM_X7_115 : Cond.methodLink RX7 115 yX7_isNear ∈ wsL_law := kR22 _ (List.mem_of_getElem? (i := 19) rfl)
theorem kT_yX7_isNear : Cond.static yX7_isNear ∈ wsL_law := kR22 _ (List.mem_of_getElem? (i := 20) rfl)
theorem kC_yX7_isNear : Cond.code yX7_isNear cX7_isNear 2 (some .boolean) ∈ wsL_law := kR22 _ (List.mem_of_getElem? (i := 21) rfl)
theorem kM_X7_111 : Cond.methodLink RX7 111 yX7_degrees ∈ wsL_law := kR22 _ (List.mem_of_getElem? (i := 22) rfl)
theorem kI_yX7_degrees : Cond.instanceMethod yX7_degrees ∈ wsL_law := kR22 _ (List.mem_of_getElem? (i := 23) rfl)
theorem kS_yX7_degrees : Cond.selects RX7 yX7_degrees yX7_degrees ∈ wsL_law := kR23 _ (List.mem_of_getElem? (i := 0) rfl)
theorem kC_yX7_degrees : Cond.code yX7_degrees cX7_degrees 2 (some .long) ∈ wsL_law := kR23 _ (List.mem_of_getElem? (i := 1) rfl)
theorem kL_X7_85 : Cond.constantLong RX7 85 (20000) ∈ wsL_law := kR23 _ (List.mem_of_getElem? (i := 2) rfl)
theorem kM_X7_129 : Cond.methodLink RX7 129 yX7_lesser ∈ wsL_law := kR23 _ (List.mem_of_getElem? (i := 3) rfl)
theorem kT_yX7_lesser : Cond.static yX7_lesser ∈ wsL_law := kR23 _ (List.mem_of_getElem? (i := 4) rfl)
theorem kC_yX7_lesser : Cond.code yX7_lesser cX7_lesser 4 (some .long) ∈ wsL_law := kR23 _ (List.mem_of_getElem? (i := 5) rfl)
theorem kM_X7_164 : Cond.methodLink RX7 164 yX7_draws ∈ wsL_law := kR23 _ (List.mem_of_getElem? (i := 6) rfl)
theorem kI_yX7_draws : Cond.instanceMethod yX7_draws ∈ wsL_law := kR23 _ (List.mem_of_getElem? (i := 7) rfl)
theorem kS_yX7_draws : Cond.selects RX7 yX7_draws yX7_draws ∈ wsL_law := kR23 _ (List.mem_of_getElem? (i := 8) rfl)
theorem kC_yX7_draws : Cond.code yX7_draws cX7_draws 12 (some .long) ∈ wsL_law := kR23 _ (List.mem_of_getElem? (i := 9) rfl)
theorem kL_X7_127 : Cond.constantLong RX7 127 (10) ∈ wsL_law := kR23 _ (List.mem_of_getElem? (i := 10) rfl)
theorem kL_X7_137 : Cond.constantLong RX7 137 (200) ∈ wsL_law := kR23 _ (List.mem_of_getElem? (i := 11) rfl)
theorem kL_X7_139 : Cond.constantLong RX7 139 (400) ∈ wsL_law := kR23 _ (List.mem_of_getElem? (i := 12) rfl)
theorem kL_X7_141 : Cond.constantLong RX7 141 (60) ∈ wsL_law := kR23 _ (List.mem_of_getElem? (i := 13) rfl)
theorem kL_X7_143 : Cond.constantLong RX7 143 (160) ∈ wsL_law := kR23 _ (List.mem_of_getElem? (i := 14) rfl)
theorem kL_X7_145 : Cond.constantLong RX7 145 (500) ∈ wsL_law := kR23 _ (List.mem_of_getElem? (i := 15) rfl)
theorem kM_X7_133 : Cond.methodLink RX7 133 yX7_gives ∈ wsL_law := kR23 _ (List.mem_of_getElem? (i := 16) rfl)
theorem kI_yX7_gives : Cond.instanceMethod yX7_gives ∈ wsL_law := kR23 _ (List.mem_of_getElem? (i := 17) rfl)
theorem kS_yX7_gives : Cond.selects RX7 yX7_gives yX7_gives ∈ wsL_law := kR23 _ (List.mem_of_getElem? (i := 18) rfl)
theorem kC_yX7_gives : Cond.code yX7_gives cX7_gives 6 (some .long) ∈ wsL_law := kR23 _ (List.mem_of_getElem? (i := 19) rfl)
theorem kM_X7_167 : Cond.methodLink RX7 167 yX7_returns ∈ wsL_law := kR23 _ (List.mem_of_getElem? (i := 20) rfl)
theorem kI_yX7_returns : Cond.instanceMethod yX7_returns ∈ wsL_law := kR23 _ (List.mem_of_getElem? (i := 21) rfl)
theorem kS_yX7_returns : Cond.selects RX7 yX7_returns yX7_returns ∈ wsL_law := kR23 _ (List.mem_of_getElem? (i := 22) rfl)
theorem kC_yX7_returns : Cond.code yX7_returns cX7_returns 10 none ∈ wsL_law := kR23 _ (List.mem_of_getElem? (i := 23) rfl)
theorem kL_X7_147 : Cond.constantLong RX7 147 (2) ∈ wsL_law := kR24 _ (List.mem_of_getElem? (i := 0) rfl)
theorem kM_X7_171 : Cond.methodLink RX7 171 yX7_quakes ∈ wsL_law := kR24 _ (List.mem_of_getElem? (i := 1) rfl)
theorem kI_yX7_quakes : Cond.instanceMethod yX7_quakes ∈ wsL_law := kR24 _ (List.mem_of_getElem? (i := 2) rfl)
theorem kS_yX7_quakes : Cond.selects RX7 yX7_quakes yX7_quakes ∈ wsL_law := kR24 _ (List.mem_of_getElem? (i := 3) rfl)
theorem kC_yX7_quakes : Cond.code yX7_quakes cX7_quakes 3 none ∈ wsL_law := kR24 _ (List.mem_of_getElem? (i := 4) rfl)
theorem kL_X7_149 : Cond.constantLong RX7 149 (3000) ∈ wsL_law := kR24 _ (List.mem_of_getElem? (i := 5) rfl)
theorem kM_X7_175 : Cond.methodLink RX7 175 yX7_cracks ∈ wsL_law := kR24 _ (List.mem_of_getElem? (i := 6) rfl)
theorem kI_yX7_cracks : Cond.instanceMethod yX7_cracks ∈ wsL_law := kR24 _ (List.mem_of_getElem? (i := 7) rfl)
theorem kS_yX7_cracks : Cond.selects RX7 yX7_cracks yX7_cracks ∈ wsL_law := kR24 _ (List.mem_of_getElem? (i := 8) rfl)
theorem kC_yX7_cracks : Cond.code yX7_cracks cX7_cracks 2 none ∈ wsL_law := kR24 _ (List.mem_of_getElem? (i := 9) rfl)
theorem kM_X7_151 : Cond.methodLink RX7 151 yX7_leaks ∈ wsL_law := kR24 _ (List.mem_of_getElem? (i := 10) rfl)
theorem kI_yX7_leaks : Cond.instanceMethod yX7_leaks ∈ wsL_law := kR24 _ (List.mem_of_getElem? (i := 11) rfl)
theorem kS_yX7_leaks : Cond.selects RX7 yX7_leaks yX7_leaks ∈ wsL_law := kR24 _ (List.mem_of_getElem? (i := 12) rfl)
theorem kC_yX7_leaks : Cond.code yX7_leaks cX7_leaks 10 none ∈ wsL_law := kR24 _ (List.mem_of_getElem? (i := 13) rfl)
theorem kM_X7_178 : Cond.methodLink RX7 178 yX7_warms ∈ wsL_law := kR24 _ (List.mem_of_getElem? (i := 14) rfl)
theorem kI_yX7_warms : Cond.instanceMethod yX7_warms ∈ wsL_law := kR24 _ (List.mem_of_getElem? (i := 15) rfl)
theorem kS_yX7_warms : Cond.selects RX7 yX7_warms yX7_warms ∈ wsL_law := kR24 _ (List.mem_of_getElem? (i := 16) rfl)
theorem kC_yX7_warms : Cond.code yX7_warms cX7_warms 2 none ∈ wsL_law := kR24 _ (List.mem_of_getElem? (i := 17) rfl)
theorem kL_X7_155 : Cond.constantLong RX7 155 (80) ∈ wsL_law := kR24 _ (List.mem_of_getElem? (i := 18) rfl)
theorem kL_X7_157 : Cond.constantLong RX7 157 (300) ∈ wsL_law := kR24 _ (List.mem_of_getElem? (i := 19) rfl)
theorem kL_X7_159 : Cond.constantLong RX7 159 (50) ∈ wsL_law := kR24 _ (List.mem_of_getElem? (i := 20) rfl)
theorem kM_X7_181 : Cond.methodLink RX7 181 yX7_springs ∈ wsL_law := kR24 _ (List.mem_of_getElem? (i := 21) rfl)
theorem kI_yX7_springs : Cond.instanceMethod yX7_springs ∈ wsL_law := kR24 _ (List.mem_of_getElem? (i := 22) rfl)
theorem kS_yX7_springs : Cond.selects RX7 yX7_springs yX7_springs ∈ wsL_law := kR24 _ (List.mem_of_getElem? (i := 23) rfl)
theorem kC_yX7_springs : Cond.code yX7_springs cX7_springs 6 none ∈ wsL_law := kR25 _ (List.mem_of_getElem? (i := 0) rfl)
theorem kM_L_123 : Cond.methodLink RL 123 yL_ofBlock ∈ wsL_law := kR25 _ (List.mem_of_getElem? (i := 1) rfl)
theorem kT_yL_ofBlock : Cond.static yL_ofBlock ∈ wsL_law := kR25 _ (List.mem_of_getElem? (i := 2) rfl)
theorem kW_yL_ofBlock : Cond.codeWith yL_ofBlock cL_ofBlock 5 (some .int) [(0, 9, 12, 13), (0, 9, 16, 15)] ∈ wsL_law := kR25 _ (List.mem_of_getElem? (i := 3) rfl)
theorem kM_L_53 : Cond.methodLink RL 53 yX6_ofBlock ∈ wsL_law := kR25 _ (List.mem_of_getElem? (i := 4) rfl)
theorem kI_yX6_ofBlock : Cond.instanceMethod yX6_ofBlock ∈ wsL_law := kR25 _ (List.mem_of_getElem? (i := 5) rfl)
theorem kS_yX6_ofBlock : Cond.selects RX6 yX6_ofBlock yX6_ofBlock ∈ wsL_law := kR25 _ (List.mem_of_getElem? (i := 6) rfl)
theorem kC_yX6_ofBlock : Cond.code yX6_ofBlock cX6_ofBlock 3 (some .long) ∈ wsL_law := kR25 _ (List.mem_of_getElem? (i := 7) rfl)
theorem kM_X6_117 : Cond.methodLink RX6 117 yX1_tell ∈ wsL_law := kR25 _ (List.mem_of_getElem? (i := 8) rfl)
theorem kI_yX1_tell : Cond.instanceMethod yX1_tell ∈ wsL_law := kR25 _ (List.mem_of_getElem? (i := 9) rfl)
theorem kS_yX1_tell : Cond.selects RX1 yX1_tell yX1_tell ∈ wsL_law := kR25 _ (List.mem_of_getElem? (i := 10) rfl)
theorem kC_yX1_tell : Cond.code yX1_tell cX1_tell 3 (some .long) ∈ wsL_law := kR25 _ (List.mem_of_getElem? (i := 11) rfl)
theorem kM_X1_54 : Cond.methodLink RX1 54 yX1_light ∈ wsL_law := kR25 _ (List.mem_of_getElem? (i := 12) rfl)
theorem kM_L_125 : Cond.methodLink RL 125 yX7_ofBlock ∈ wsL_law := kR25 _ (List.mem_of_getElem? (i := 13) rfl)
theorem kI_yX7_ofBlock : Cond.instanceMethod yX7_ofBlock ∈ wsL_law := kR25 _ (List.mem_of_getElem? (i := 14) rfl)
theorem kS_yX7_ofBlock : Cond.selects RX7 yX7_ofBlock yX7_ofBlock ∈ wsL_law := kR25 _ (List.mem_of_getElem? (i := 15) rfl)
theorem kC_yX7_ofBlock : Cond.code yX7_ofBlock cX7_ofBlock 3 (some .long) ∈ wsL_law := kR25 _ (List.mem_of_getElem? (i := 16) rfl)
theorem kM_X7_188 : Cond.methodLink RX7 188 yX7_told ∈ wsL_law := kR25 _ (List.mem_of_getElem? (i := 17) rfl)
theorem kI_yX7_told : Cond.instanceMethod yX7_told ∈ wsL_law := kR25 _ (List.mem_of_getElem? (i := 18) rfl)
theorem kS_yX7_told : Cond.selects RX7 yX7_told yX7_told ∈ wsL_law := kR25 _ (List.mem_of_getElem? (i := 19) rfl)
theorem kC_yX7_told : Cond.code yX7_told cX7_told 3 (some .long) ∈ wsL_law := kR25 _ (List.mem_of_getElem? (i := 20) rfl)
theorem kM_L_126 : Cond.methodLink RL 126 yL_would ∈ wsL_law := kR25 _ (List.mem_of_getElem? (i := 21) rfl)
theorem kT_yL_would : Cond.static yL_would ∈ wsL_law := kR25 _ (List.mem_of_getElem? (i := 22) rfl)
theorem kW_yL_would : Cond.codeWith yL_would cL_would 6 (some .int) [(0, 11, 14, 13), (0, 11, 18, 15)] ∈ wsL_law := kR25 _ (List.mem_of_getElem? (i := 23) rfl)
theorem kM_L_56 : Cond.methodLink RL 56 yX6_would ∈ wsL_law := kR26 _ (List.mem_of_getElem? (i := 0) rfl)
theorem kI_yX6_would : Cond.instanceMethod yX6_would ∈ wsL_law := kR26 _ (List.mem_of_getElem? (i := 1) rfl)
theorem kS_yX6_would : Cond.selects RX6 yX6_would yX6_would ∈ wsL_law := kR26 _ (List.mem_of_getElem? (i := 2) rfl)
theorem kC_yX6_would : Cond.code yX6_would cX6_would 5 (some .long) ∈ wsL_law := kR26 _ (List.mem_of_getElem? (i := 3) rfl)
theorem kM_X6_121 : Cond.methodLink RX6 121 yX0_copy ∈ wsL_law := kR26 _ (List.mem_of_getElem? (i := 4) rfl)
theorem kI_yX0_copy : Cond.instanceMethod yX0_copy ∈ wsL_law := kR26 _ (List.mem_of_getElem? (i := 5) rfl)
theorem kS_yX0_copy : Cond.selects RX0 yX0_copy yX0_copy ∈ wsL_law := kR26 _ (List.mem_of_getElem? (i := 6) rfl)
theorem kC_yX0_copy : Cond.code yX0_copy cX0_copy 3 none ∈ wsL_law := kR26 _ (List.mem_of_getElem? (i := 7) rfl)
theorem kM_X0_67 : Cond.methodLink RX0 67 yX1_copy ∈ wsL_law := kR26 _ (List.mem_of_getElem? (i := 8) rfl)
theorem kI_yX1_copy : Cond.instanceMethod yX1_copy ∈ wsL_law := kR26 _ (List.mem_of_getElem? (i := 9) rfl)
theorem kS_yX1_copy : Cond.selects RX1 yX1_copy yX1_copy ∈ wsL_law := kR26 _ (List.mem_of_getElem? (i := 10) rfl)
theorem kC_yX1_copy : Cond.code yX1_copy cX1_copy 3 none ∈ wsL_law := kR26 _ (List.mem_of_getElem? (i := 11) rfl)
theorem kM_X0_71 : Cond.methodLink RX0 71 yX5_copy ∈ wsL_law := kR26 _ (List.mem_of_getElem? (i := 12) rfl)
theorem kI_yX5_copy : Cond.instanceMethod yX5_copy ∈ wsL_law := kR26 _ (List.mem_of_getElem? (i := 13) rfl)
theorem kS_yX5_copy : Cond.selects RX5 yX5_copy yX5_copy ∈ wsL_law := kR26 _ (List.mem_of_getElem? (i := 14) rfl)
theorem kC_yX5_copy : Cond.code yX5_copy cX5_copy 3 none ∈ wsL_law := kR26 _ (List.mem_of_getElem? (i := 15) rfl)
theorem kM_X0_74 : Cond.methodLink RX0 74 yX4_copy ∈ wsL_law := kR26 _ (List.mem_of_getElem? (i := 16) rfl)
theorem kI_yX4_copy : Cond.instanceMethod yX4_copy ∈ wsL_law := kR26 _ (List.mem_of_getElem? (i := 17) rfl)
theorem kS_yX4_copy : Cond.selects RX4 yX4_copy yX4_copy ∈ wsL_law := kR26 _ (List.mem_of_getElem? (i := 18) rfl)
theorem kC_yX4_copy : Cond.code yX4_copy cX4_copy 3 none ∈ wsL_law := kR26 _ (List.mem_of_getElem? (i := 19) rfl)
theorem kM_X0_77 : Cond.methodLink RX0 77 yX3_copy ∈ wsL_law := kR26 _ (List.mem_of_getElem? (i := 20) rfl)
theorem kI_yX3_copy : Cond.instanceMethod yX3_copy ∈ wsL_law := kR26 _ (List.mem_of_getElem? (i := 21) rfl)
theorem kS_yX3_copy : Cond.selects RX3 yX3_copy yX3_copy ∈ wsL_law := kR26 _ (List.mem_of_getElem? (i := 22) rfl)
theorem kC_yX3_copy : Cond.code yX3_copy cX3_copy 3 none ∈ wsL_law := kR26 _ (List.mem_of_getElem? (i := 23) rfl)
theorem kM_X0_80 : Cond.methodLink RX0 80 yX2_copy ∈ wsL_law := kR27 _ (List.mem_of_getElem? (i := 0) rfl)
theorem kI_yX2_copy : Cond.instanceMethod yX2_copy ∈ wsL_law := kR27 _ (List.mem_of_getElem? (i := 1) rfl)
theorem kS_yX2_copy : Cond.selects RX2 yX2_copy yX2_copy ∈ wsL_law := kR27 _ (List.mem_of_getElem? (i := 2) rfl)
theorem kC_yX2_copy : Cond.code yX2_copy cX2_copy 3 none ∈ wsL_law := kR27 _ (List.mem_of_getElem? (i := 3) rfl)
theorem kM_X2_31 : Cond.methodLink RX2 31 yX2_kept ∈ wsL_law := kR27 _ (List.mem_of_getElem? (i := 4) rfl)
theorem kI_yX2_kept : Cond.instanceMethod yX2_kept ∈ wsL_law := kR27 _ (List.mem_of_getElem? (i := 5) rfl)
theorem kS_yX2_kept : Cond.selects RX2 yX2_kept yX2_kept ∈ wsL_law := kR27 _ (List.mem_of_getElem? (i := 6) rfl)
theorem kC_yX2_kept : Cond.code yX2_kept cX2_kept 1 (some .int) ∈ wsL_law := kR27 _ (List.mem_of_getElem? (i := 7) rfl)
theorem kM_X2_25 : Cond.methodLink RX2 25 Lib.Math.min.name ∈ wsL_law := kR27 _ (List.mem_of_getElem? (i := 8) rfl)
theorem kM_L_128 : Cond.methodLink RL 128 yX7_would ∈ wsL_law := kR27 _ (List.mem_of_getElem? (i := 9) rfl)
theorem kI_yX7_would : Cond.instanceMethod yX7_would ∈ wsL_law := kR27 _ (List.mem_of_getElem? (i := 10) rfl)
theorem kS_yX7_would : Cond.selects RX7 yX7_would yX7_would ∈ wsL_law := kR27 _ (List.mem_of_getElem? (i := 11) rfl)
theorem kC_yX7_would : Cond.code yX7_would cX7_would 7 (some .long) ∈ wsL_law := kR27 _ (List.mem_of_getElem? (i := 12) rfl)
theorem kM_L_129 : Cond.methodLink RL 129 yL_ofWell ∈ wsL_law := kR27 _ (List.mem_of_getElem? (i := 13) rfl)
theorem kT_yL_ofWell : Cond.static yL_ofWell ∈ wsL_law := kR27 _ (List.mem_of_getElem? (i := 14) rfl)
theorem kW_yL_ofWell : Cond.codeWith yL_ofWell cL_ofWell 5 (some .int) [(0, 9, 12, 13), (0, 9, 16, 15)] ∈ wsL_law := kR27 _ (List.mem_of_getElem? (i := 15) rfl)
theorem kM_L_60 : Cond.methodLink RL 60 yX6_ofWell ∈ wsL_law := kR27 _ (List.mem_of_getElem? (i := 16) rfl)
theorem kI_yX6_ofWell : Cond.instanceMethod yX6_ofWell ∈ wsL_law := kR27 _ (List.mem_of_getElem? (i := 17) rfl)
theorem kS_yX6_ofWell : Cond.selects RX6 yX6_ofWell yX6_ofWell ∈ wsL_law := kR27 _ (List.mem_of_getElem? (i := 18) rfl)
theorem kC_yX6_ofWell : Cond.code yX6_ofWell cX6_ofWell 3 (some .long) ∈ wsL_law := kR27 _ (List.mem_of_getElem? (i := 19) rfl)
theorem kM_X6_125 : Cond.methodLink RX6 125 yX5_tell ∈ wsL_law := kR27 _ (List.mem_of_getElem? (i := 20) rfl)
theorem kI_yX5_tell : Cond.instanceMethod yX5_tell ∈ wsL_law := kR27 _ (List.mem_of_getElem? (i := 21) rfl)
theorem kS_yX5_tell : Cond.selects RX5 yX5_tell yX5_tell ∈ wsL_law := kR27 _ (List.mem_of_getElem? (i := 22) rfl)
theorem kC_yX5_tell : Cond.code yX5_tell cX5_tell 3 (some .long) ∈ wsL_law := kR27 _ (List.mem_of_getElem? (i := 23) rfl)
theorem kM_L_131 : Cond.methodLink RL 131 yX7_ofWell ∈ wsL_law := kR28 _ (List.mem_of_getElem? (i := 0) rfl)
theorem kI_yX7_ofWell : Cond.instanceMethod yX7_ofWell ∈ wsL_law := kR28 _ (List.mem_of_getElem? (i := 1) rfl)
theorem kS_yX7_ofWell : Cond.selects RX7 yX7_ofWell yX7_ofWell ∈ wsL_law := kR28 _ (List.mem_of_getElem? (i := 2) rfl)
theorem kC_yX7_ofWell : Cond.code yX7_ofWell cX7_ofWell 3 (some .long) ∈ wsL_law := kR28 _ (List.mem_of_getElem? (i := 3) rfl)
theorem kM_L_132 : Cond.methodLink RL 132 yL_ofSpring ∈ wsL_law := kR28 _ (List.mem_of_getElem? (i := 4) rfl)
theorem kT_yL_ofSpring : Cond.static yL_ofSpring ∈ wsL_law := kR28 _ (List.mem_of_getElem? (i := 5) rfl)
theorem kW_yL_ofSpring : Cond.codeWith yL_ofSpring cL_ofSpring 5 (some .int) [(0, 9, 12, 13), (0, 9, 16, 15)] ∈ wsL_law := kR28 _ (List.mem_of_getElem? (i := 6) rfl)
theorem kM_L_63 : Cond.methodLink RL 63 yX6_ofSpring ∈ wsL_law := kR28 _ (List.mem_of_getElem? (i := 7) rfl)
theorem kI_yX6_ofSpring : Cond.instanceMethod yX6_ofSpring ∈ wsL_law := kR28 _ (List.mem_of_getElem? (i := 8) rfl)
theorem kS_yX6_ofSpring : Cond.selects RX6 yX6_ofSpring yX6_ofSpring ∈ wsL_law := kR28 _ (List.mem_of_getElem? (i := 9) rfl)
theorem kC_yX6_ofSpring : Cond.code yX6_ofSpring cX6_ofSpring 3 (some .long) ∈ wsL_law := kR28 _ (List.mem_of_getElem? (i := 10) rfl)
theorem kM_X6_126 : Cond.methodLink RX6 126 yX3_tell ∈ wsL_law := kR28 _ (List.mem_of_getElem? (i := 11) rfl)
theorem kI_yX3_tell : Cond.instanceMethod yX3_tell ∈ wsL_law := kR28 _ (List.mem_of_getElem? (i := 12) rfl)
theorem kS_yX3_tell : Cond.selects RX3 yX3_tell yX3_tell ∈ wsL_law := kR28 _ (List.mem_of_getElem? (i := 13) rfl)
theorem kC_yX3_tell : Cond.code yX3_tell cX3_tell 3 (some .long) ∈ wsL_law := kR28 _ (List.mem_of_getElem? (i := 14) rfl)
theorem kM_X3_35 : Cond.methodLink RX3 35 yX3_toBlame ∈ wsL_law := kR28 _ (List.mem_of_getElem? (i := 15) rfl)
theorem kI_yX3_toBlame : Cond.instanceMethod yX3_toBlame ∈ wsL_law := kR28 _ (List.mem_of_getElem? (i := 16) rfl)
theorem kS_yX3_toBlame : Cond.selects RX3 yX3_toBlame yX3_toBlame ∈ wsL_law := kR28 _ (List.mem_of_getElem? (i := 17) rfl)
theorem kC_yX3_toBlame : Cond.code yX3_toBlame cX3_toBlame 8 (some .int) ∈ wsL_law := kR28 _ (List.mem_of_getElem? (i := 18) rfl)
theorem kM_L_134 : Cond.methodLink RL 134 yX7_ofSpring ∈ wsL_law := kR28 _ (List.mem_of_getElem? (i := 19) rfl)
theorem kI_yX7_ofSpring : Cond.instanceMethod yX7_ofSpring ∈ wsL_law := kR28 _ (List.mem_of_getElem? (i := 20) rfl)
theorem kS_yX7_ofSpring : Cond.selects RX7 yX7_ofSpring yX7_ofSpring ∈ wsL_law := kR28 _ (List.mem_of_getElem? (i := 21) rfl)
theorem kC_yX7_ofSpring : Cond.code yX7_ofSpring cX7_ofSpring 3 (some .long) ∈ wsL_law := kR28 _ (List.mem_of_getElem? (i := 22) rfl)
theorem kM_X7_192 : Cond.methodLink RX7 192 yX7_toBlame ∈ wsL_law := kR28 _ (List.mem_of_getElem? (i := 23) rfl)
theorem kI_yX7_toBlame : Cond.instanceMethod yX7_toBlame ∈ wsL_law := kR29 _ (List.mem_of_getElem? (i := 0) rfl)
theorem kS_yX7_toBlame : Cond.selects RX7 yX7_toBlame yX7_toBlame ∈ wsL_law := kR29 _ (List.mem_of_getElem? (i := 1) rfl)
theorem kC_yX7_toBlame : Cond.code yX7_toBlame cX7_toBlame 6 (some .int) ∈ wsL_law := kR29 _ (List.mem_of_getElem? (i := 2) rfl)
theorem kM_L_135 : Cond.methodLink RL 135 yL_quake ∈ wsL_law := kR29 _ (List.mem_of_getElem? (i := 3) rfl)
theorem kT_yL_quake : Cond.static yL_quake ∈ wsL_law := kR29 _ (List.mem_of_getElem? (i := 4) rfl)
theorem kW_yL_quake : Cond.codeWith yL_quake cL_quake 5 (some .int) [(0, 10, 13, 13), (0, 10, 17, 15)] ∈ wsL_law := kR29 _ (List.mem_of_getElem? (i := 5) rfl)
theorem kM_L_66 : Cond.methodLink RL 66 yX6_quake ∈ wsL_law := kR29 _ (List.mem_of_getElem? (i := 6) rfl)
theorem kI_yX6_quake : Cond.instanceMethod yX6_quake ∈ wsL_law := kR29 _ (List.mem_of_getElem? (i := 7) rfl)
theorem kS_yX6_quake : Cond.selects RX6 yX6_quake yX6_quake ∈ wsL_law := kR29 _ (List.mem_of_getElem? (i := 8) rfl)
theorem kC_yX6_quake : Cond.code yX6_quake cX6_quake 3 (some .int) ∈ wsL_law := kR29 _ (List.mem_of_getElem? (i := 9) rfl)
theorem kF_X6_127 : Cond.fieldLink RX6 127 "Steamfield$Field" "quakes" "LSteamfield$Quakes;" ∈ wsL_law := kR29 _ (List.mem_of_getElem? (i := 10) rfl)
theorem kM_X6_131 : Cond.methodLink RX6 131 yX2_kept ∈ wsL_law := kR29 _ (List.mem_of_getElem? (i := 11) rfl)
theorem kM_X6_137 : Cond.methodLink RX6 137 yX2_tell ∈ wsL_law := kR29 _ (List.mem_of_getElem? (i := 12) rfl)
theorem kI_yX2_tell : Cond.instanceMethod yX2_tell ∈ wsL_law := kR29 _ (List.mem_of_getElem? (i := 13) rfl)
theorem kS_yX2_tell : Cond.selects RX2 yX2_tell yX2_tell ∈ wsL_law := kR29 _ (List.mem_of_getElem? (i := 14) rfl)
theorem kC_yX2_tell : Cond.code yX2_tell cX2_tell 3 (some .int) ∈ wsL_law := kR29 _ (List.mem_of_getElem? (i := 15) rfl)
theorem kM_L_137 : Cond.methodLink RL 137 yX7_quake ∈ wsL_law := kR29 _ (List.mem_of_getElem? (i := 16) rfl)
theorem kI_yX7_quake : Cond.instanceMethod yX7_quake ∈ wsL_law := kR29 _ (List.mem_of_getElem? (i := 17) rfl)
theorem kS_yX7_quake : Cond.selects RX7 yX7_quake yX7_quake ∈ wsL_law := kR29 _ (List.mem_of_getElem? (i := 18) rfl)
theorem kC_yX7_quake : Cond.code yX7_quake cX7_quake 4 (some .int) ∈ wsL_law := kR29 _ (List.mem_of_getElem? (i := 19) rfl)
theorem kM_L_138 : Cond.methodLink RL 138 yL_count ∈ wsL_law := kR29 _ (List.mem_of_getElem? (i := 20) rfl)
theorem kT_yL_count : Cond.static yL_count ∈ wsL_law := kR29 _ (List.mem_of_getElem? (i := 21) rfl)
theorem kW_yL_count : Cond.codeWith yL_count cL_count 4 (some .int) [(0, 9, 12, 15)] ∈ wsL_law := kR29 _ (List.mem_of_getElem? (i := 22) rfl)
theorem kM_L_69 : Cond.methodLink RL 69 yX6_count ∈ wsL_law := kR29 _ (List.mem_of_getElem? (i := 23) rfl)
theorem kI_yX6_count : Cond.instanceMethod yX6_count ∈ wsL_law := kR30 _ (List.mem_of_getElem? (i := 0) rfl)
theorem kS_yX6_count : Cond.selects RX6 yX6_count yX6_count ∈ wsL_law := kR30 _ (List.mem_of_getElem? (i := 1) rfl)
theorem kC_yX6_count : Cond.code yX6_count cX6_count 2 (some .int) ∈ wsL_law := kR30 _ (List.mem_of_getElem? (i := 2) rfl)
theorem kF_X6_139 : Cond.fieldLink RX6 139 "Steamfield$Quakes" "all" "I" ∈ wsL_law := kR30 _ (List.mem_of_getElem? (i := 3) rfl)
theorem kM_L_140 : Cond.methodLink RL 140 yX7_count ∈ wsL_law := kR30 _ (List.mem_of_getElem? (i := 4) rfl)
theorem kI_yX7_count : Cond.instanceMethod yX7_count ∈ wsL_law := kR30 _ (List.mem_of_getElem? (i := 5) rfl)
theorem kS_yX7_count : Cond.selects RX7 yX7_count yX7_count ∈ wsL_law := kR30 _ (List.mem_of_getElem? (i := 6) rfl)
theorem kC_yX7_count : Cond.code yX7_count cX7_count 2 (some .int) ∈ wsL_law := kR30 _ (List.mem_of_getElem? (i := 7) rfl)
theorem kM_L_141 : Cond.methodLink RL 141 yL_sum ∈ wsL_law := kR30 _ (List.mem_of_getElem? (i := 8) rfl)
theorem kT_yL_sum : Cond.static yL_sum ∈ wsL_law := kR30 _ (List.mem_of_getElem? (i := 9) rfl)
theorem kW_yL_sum : Cond.codeWith yL_sum cL_sum 4 (some .int) [(0, 8, 11, 15)] ∈ wsL_law := kR30 _ (List.mem_of_getElem? (i := 10) rfl)
theorem kM_L_72 : Cond.methodLink RL 72 yX6_sum ∈ wsL_law := kR30 _ (List.mem_of_getElem? (i := 11) rfl)
theorem kI_yX6_sum : Cond.instanceMethod yX6_sum ∈ wsL_law := kR30 _ (List.mem_of_getElem? (i := 12) rfl)
theorem kS_yX6_sum : Cond.selects RX6 yX6_sum yX6_sum ∈ wsL_law := kR30 _ (List.mem_of_getElem? (i := 13) rfl)
theorem kC_yX6_sum : Cond.code yX6_sum cX6_sum 2 (some .long) ∈ wsL_law := kR30 _ (List.mem_of_getElem? (i := 14) rfl)
theorem kF_X6_146 : Cond.fieldLink RX6 146 "Steamfield$Field" "sums" "[J" ∈ wsL_law := kR30 _ (List.mem_of_getElem? (i := 15) rfl)
theorem kM_X6_142 : Cond.methodLink RX6 142 yX1_allWater ∈ wsL_law := kR30 _ (List.mem_of_getElem? (i := 16) rfl)
theorem kI_yX1_allWater : Cond.instanceMethod yX1_allWater ∈ wsL_law := kR30 _ (List.mem_of_getElem? (i := 17) rfl)
theorem kS_yX1_allWater : Cond.selects RX1 yX1_allWater yX1_allWater ∈ wsL_law := kR30 _ (List.mem_of_getElem? (i := 18) rfl)
theorem kC_yX1_allWater : Cond.code yX1_allWater cX1_allWater 4 (some .long) ∈ wsL_law := kR30 _ (List.mem_of_getElem? (i := 19) rfl)
theorem kM_L_143 : Cond.methodLink RL 143 yX7_sum ∈ wsL_law := kR30 _ (List.mem_of_getElem? (i := 20) rfl)
theorem kI_yX7_sum : Cond.instanceMethod yX7_sum ∈ wsL_law := kR30 _ (List.mem_of_getElem? (i := 21) rfl)
theorem kS_yX7_sum : Cond.selects RX7 yX7_sum yX7_sum ∈ wsL_law := kR30 _ (List.mem_of_getElem? (i := 22) rfl)
theorem kC_yX7_sum : Cond.code yX7_sum cX7_sum 5 (some .long) ∈ wsL_law := kR30 _ (List.mem_of_getElem? (i := 23) rfl)
theorem kM_L_144 : Cond.methodLink RL 144 yX6_share ∈ wsL_law := kR31 _ (List.mem_of_getElem? (i := 0) rfl)
theorem kI_yX6_share : Cond.instanceMethod yX6_share ∈ wsL_law := kR31 _ (List.mem_of_getElem? (i := 1) rfl)
theorem kS_yX6_share : Cond.selects RX6 yX6_share yX6_share ∈ wsL_law := kR31 _ (List.mem_of_getElem? (i := 2) rfl)
theorem kC_yX6_share : Cond.code yX6_share cX6_share 5 (some .int) ∈ wsL_law := kR31 _ (List.mem_of_getElem? (i := 3) rfl)
theorem kM_X6_149 : Cond.methodLink RX6 149 yX6_bitsOf ∈ wsL_law := kR31 _ (List.mem_of_getElem? (i := 4) rfl)
theorem kT_yX6_bitsOf : Cond.static yX6_bitsOf ∈ wsL_law := kR31 _ (List.mem_of_getElem? (i := 5) rfl)
theorem kC_yX6_bitsOf : Cond.code yX6_bitsOf cX6_bitsOf 3 (some .int) ∈ wsL_law := kR31 _ (List.mem_of_getElem? (i := 6) rfl)
theorem kG_X6_170 : Cond.constantFloat RX6 170 (1258291200) ∈ wsL_law := kR31 _ (List.mem_of_getElem? (i := 7) rfl)
theorem kM_L_147 : Cond.methodLink RL 147 yX7_share ∈ wsL_law := kR31 _ (List.mem_of_getElem? (i := 8) rfl)
theorem kI_yX7_share : Cond.instanceMethod yX7_share ∈ wsL_law := kR31 _ (List.mem_of_getElem? (i := 9) rfl)
theorem kS_yX7_share : Cond.selects RX7 yX7_share yX7_share ∈ wsL_law := kR31 _ (List.mem_of_getElem? (i := 10) rfl)
theorem kC_yX7_share : Cond.code yX7_share cX7_share 3 (some .int) ∈ wsL_law := kR31 _ (List.mem_of_getElem? (i := 11) rfl)
theorem kG_X7_195 : Cond.constantFloat RX7 195 (1258291200) ∈ wsL_law := kR31 _ (List.mem_of_getElem? (i := 12) rfl)
end
section
/-! MY OWN LAYER: one judgement g_G over a written world, so that a row an instruction needs no heap by name -/
abbrev g_tys (cI cJ cZ : ClassId) : List (ClassId × FieldType) := [(cI, .int), (cJ, .long), (cZ, .boolean)]
/-- the links between nest mates that the methods use -/
def g_nest : List (String × Nat × MethodName) := [("Steamfield", 9, ⟨"Steamfield$Field", "<init>", "()V"⟩), ("Steamfield$Field", 27, ⟨"Steamfield$Wells", "<init>", "()V"⟩), ("Steamfield$Field", 34, ⟨"Steamfield$Uses", "<init>", "()V"⟩), ("Steamfield$Field", 41, ⟨"Steamfield$Springs", "<init>", "()V"⟩), ("Steamfield$Field", 48, ⟨"Steamfield$Quakes", "<init>", "()V"⟩), ("Steamfield$Springs", 39, ⟨"Steamfield", "areNeighbours", "(II)Z"⟩), ("Steamfield$Ground", 64, ⟨"Steamfield", "areNeighbours", "(II)Z"⟩)]
/-- what is known of classes, array classes and nest links -/
def g_Kn (D : va_G) (cI cJ cZ : ClassId) (U : State) : Prop := va_K D vwCl (g_tys cI cJ cZ) U ∧ ∀ w ∈ g_nest, va_Nw (.methodLinkNest w.1 w.2.1 w.2.2 "Steamfield") U
theorem g_Kn.warm {D : va_G} {cI cJ cZ : ClassId} {s U : State} (hW : s.WarmedH U.vm) (h : g_Kn D cI cJ cZ s) : g_Kn D cI cJ cZ U := ⟨va_K.moved hW.alike h.1, fun w hw => va_Nw.warmM hW (h.2 w hw)⟩
theorem g_Kn.same {D : va_G} {cI cJ cZ : ClassId} {u U : State} (hvm : u.vm = U.vm) (h : g_Kn D cI cJ cZ u) : g_Kn D cI cJ cZ U := ⟨va_K.moved (by rw [hvm]; exact Vm.Alike.refl U.vm) h.1, fun w hw => va_Nw.same rfl hvm (h.2 w hw)⟩
theorem g_good : wsL_law.all goodWord = true := by decide +kernel
/-- a method's words: its code, and all words of the law -/
def g_wz (y : MethodName) (b : ByteArray) (n : Nat) (ret : Option FieldType) : List Cond := .code y b n ret :: wsL_law
theorem g_goodL : GoodIn wsL_law wsL_law := fun w h => ⟨h, good_of_word (List.all_eq_true.mp g_good w h)⟩
theorem g_goodZ {y : MethodName} {b : ByteArray} {n : Nat} {ret : Option FieldType} (h : Cond.code y b n ret ∈ wsL_law) : GoodIn wsL_law (g_wz y b n ret) := fun w hw => (List.mem_cons.mp hw).elim (fun e => e ▸ g_goodL _ h) (fun h => g_goodL w h)
theorem g_goodV {own C : String} {i : Nat} {y : MethodName} {b : ByteArray} {n : Nat} {ret : Option FieldType} (h1 : Cond.methodLink own i y ∈ wsL_law) (h2 : Cond.instanceMethod y ∈ wsL_law) (h3 : Cond.selects C y y ∈ wsL_law) (h4 : Cond.initialized C ∈ wsL_law) (h5 : Cond.code y b n ret ∈ wsL_law) : GoodIn wsL_law (wsV own i C y (g_wz y b n ret)) :=
  goodIn_app (fun w hw => g_goodL w (by
    simp only [List.mem_cons, List.not_mem_nil, or_false] at hw
    rcases hw with rfl | rfl | rfl | rfl <;> assumption)) (g_goodZ h5)
theorem g_goodS {own : String} {i : Nat} {y : MethodName} {b : ByteArray} {n : Nat} {ret : Option FieldType} (h1 : Cond.methodLink own i y ∈ wsL_law) (h2 : Cond.static y ∈ wsL_law) (h4 : Cond.initialized own ∈ wsL_law) (h5 : Cond.code y b n ret ∈ wsL_law) : GoodIn wsL_law (wsS own i y (g_wz y b n ret)) :=
  goodIn_app (fun w hw => g_goodL w (by
    simp only [List.mem_cons, List.not_mem_nil, or_false] at hw
    rcases hw with rfl | rfl | rfl <;> assumption)) (g_goodZ h5)
/-- what stays the same all through a method's walk -/
def g_Cx (p : Program) (s : State) (m : MethodId) (args : Array Value) (c : Code) (D : va_G) (A : Nat → Prop) (nL : Nat) (cc : ByteArray) (own : String) (cI cJ cZ : ClassId) : Prop :=
  p.tables.exec = Jvm.exec ∧ c.code = cc ∧ c.maxLocals = nL ∧ s.vm.findClass own = some m.cls ∧ (∀ w ∈ wsL_law, w.before args s = true) ∧ g_Kn D cI cJ cZ s ∧ (∀ q : Nat, s.heap.size ≤ q → A q)
/-- the judgement: from every heap that holds the world ws, with the locals lv, at pc with the stack st -/
def g_G (p : Program) (l : Launch) (e : Env) (R : Room) (s : State) (m : MethodId) (args : Array Value) (below : List Frame) (meth : Method) (c : Code) (D : va_G) (A : Nat → Prop) (nL kc ks : Nat) (Q : State → Prop) (ws : va_W) (lv : List (Nat × Value)) (pc : Nat) (st : List Value) : Prop :=
  ∀ (H : Heap) (locs : List Loc) (ls : Array Slot), va_P D vwCl ws H → va_D A ws → va_S A s.heap H locs → lv_has ls nL lv → W p l e R s m args below meth c H locs kc ks Q (F0 m pc ls st)
def g_Post (D : va_G) (A : Nat → Prop) (Φ : Option Value → va_W → Prop) : Array Value → State → Outcome → State → Prop := fun _ st oc t => (∃ (v : Option Value) (w : va_W), oc = .returned v ∧ Φ v w ∧ va_P D vwCl w t.heap ∧ va_D A w) ∧ va_F A st t
def g_Pre (D : va_G) (cI cJ cZ : ClassId) (as : List Value) (ws : va_W) (sz : Nat) : Array Value → State → Prop := va_Pc as (fun U => U.heap.size = sz ∧ va_P D vwCl ws U.heap ∧ g_Kn D cI cJ cZ U ∧ va_D (fun _ => True) ws)
/-- a method's contract: from the world ws and the arguments as it comes to an end with an answer and a world that Φ allows -/
def g_Ct (l : Launch) (D : va_G) (cI cJ cZ : ClassId) (y : MethodName) (b : ByteArray) (mL : Nat) (ret : Option FieldType) (rm : Room) (mc ms : Nat) (as : List Value) (ws : va_W) (Φ : Option Value → va_W → Prop) : Prop :=
  ∀ sz : Nat, Met l y (g_wz y b mL ret) rm (g_Pre D cI cJ cZ as ws sz) (g_Post D (va_A ws sz) Φ) mc ms (va_A ws sz)
/-- one answer, one world -/
def g_eq (val : Option Value) (w' : va_W) : Option Value → va_W → Prop := fun v w => v = val ∧ w = w'
theorem g_blind {D : va_G} {cI cJ cZ : ClassId} {as : List Value} {ws : va_W} {sz : Nat} : FrameBlind (g_Pre D cI cJ cZ as ws sz) := fun a U g mk q => ⟨q.1, q.2.1, q.2.2.1, g_Kn.same (u := U) (U := U.calling g mk a) rfl q.2.2.2.1, q.2.2.2.2⟩
/-- a method's body -/
theorem g_body {l : Launch} {D : va_G} {cI cJ cZ : ClassId} {y : MethodName} {b : ByteArray} {mL : Nat} {ret : Option FieldType} {rm : Room} {mc ms : Nat} {as : List Value} {ws : va_W} {Φ : Option Value → va_W → Prop} (own : String) (lv : List (Nat × Value)) (hy : plainName y.cls = true) (ho : y.cls = own) (hen : (lg_sl as).length ≤ mL) (hlv : lv_args 0 as = lv)
    (body : ∀ (p : Program) (e : Env) (s : State) (m : MethodId) (args : Array Value) (below : List Frame) (meth : Method) (c : Code) (A : Nat → Prop), g_Cx p s m args c D A mL b own cI cJ cZ → meth.sig.returnType = ret → meth.locks = false → meth.name = y.name → ∀ Q : State → Prop, MQ below (g_Post D A Φ) args s mc ms A = Q → g_G p l e rm s m args below meth c D A mL 0 0 Q ws lv 0 []) : g_Ct l D cI cJ cZ y b mL ret rm mc ms as ws Φ := by
  intro sz
  refine Met.ofW (cc := b) (maxL := mL) (ret := ret) hy rfl ?_
  intro p e s m args below meth c s₁ B hml hv
  obtain ⟨rfl, hsz, hP, hK, hD0⟩ := hv
  have hts := atoms_spec (ws := g_wz y b mL ret) B.pre
  subst hsz
  have hown : s.vm.findClass own = some m.cls := by rw [← ho]; exact findClass_of_methodNamed B.named
  have hD := hD0.self (sz := s.heap.size)
  rw [lg_entry_eq]
  subst hlv
  exact body p e s m _ below meth c (va_A ws s.heap.size) ⟨B.exec, B.bytes, hml, hown, fun w h => hts w (List.mem_cons_of_mem _ h), hK, fun q h => Or.inr h⟩ B.returns B.notSynchronized (name_of_methodNamed B.named B.method).1 _ rfl s.heap [] _ hP hD va_S.rf (lv_entry as hen)
section GO1
variable {p : Program} {l : Launch} {e : Env} {R : Room} {s : State} {m : MethodId} {args : Array Value} {below : List Frame} {meth : Method} {c : Code} {D : va_G} {A : Nat → Prop} {nL kc ks : Nat} {cc : ByteArray} {own : String} {cI cJ cZ : ClassId} {Q : State → Prop} {ws ws' : va_W} {lv lv' : List (Nat × Value)} {pc : Nat} {st : List Value} {Φ : Option Value → va_W → Prop}
theorem g_iconst (X : g_Cx p s m args c D A nL cc own cI cJ cZ) {n : Int} {v : Int32} (hd : decode cc pc = .ok (.iconst n, 1)) (hv : Int32.ofInt n = v) (kk : g_G p l e R s m args below meth c D A nL kc ks Q ws lv (pc + 1) (.int v :: st)) : g_G p l e R s m args below meth c D A nL kc ks Q ws lv pc st := fun H locs ls hP hD hS hl => lv_iconst X.1 X.2.1 hd hv (kk H locs ls hP hD hS hl)
theorem g_bipush (X : g_Cx p s m args c D A nL cc own cI cJ cZ) {n : Int} {v : Int32} (hd : decode cc pc = .ok (.bipush n, 2)) (hv : (Int8.ofInt n).toInt32 = v) (kk : g_G p l e R s m args below meth c D A nL kc ks Q ws lv (pc + 2) (.int v :: st)) : g_G p l e R s m args below meth c D A nL kc ks Q ws lv pc st := fun H locs ls hP hD hS hl => lv_bipush X.1 X.2.1 hd hv (kk H locs ls hP hD hS hl)
theorem g_sipush (X : g_Cx p s m args c D A nL cc own cI cJ cZ) {n : Int} {v : Int32} (hd : decode cc pc = .ok (.sipush n, 3)) (hv : (Int16.ofInt n).toInt32 = v) (kk : g_G p l e R s m args below meth c D A nL kc ks Q ws lv (pc + 3) (.int v :: st)) : g_G p l e R s m args below meth c D A nL kc ks Q ws lv pc st := fun H locs ls hP hD hS hl => lv_sipush X.1 X.2.1 hd hv (kk H locs ls hP hD hS hl)
theorem g_lconst (X : g_Cx p s m args c D A nL cc own cI cJ cZ) {n : Fin 2} {v : Int64} (hd : decode cc pc = .ok (.lconst n, 1)) (hv : Int64.ofNat (n : Nat) = v) (kk : g_G p l e R s m args below meth c D A nL kc ks Q ws lv (pc + 1) (.long v :: st)) : g_G p l e R s m args below meth c D A nL kc ks Q ws lv pc st := fun H locs ls hP hD hS hl => lv_lconst X.1 X.2.1 hd hv (kk H locs ls hP hD hS hl)
theorem g_ldc (X : g_Cx p s m args c D A nL cc own cI cJ cZ) {i : Nat} {v : Int32} (hk : Cond.constant own i v ∈ wsL_law) (hd : decode cc pc = .ok (.ldc i, 2)) {v' : Int32} (hv : v = v') (kk : g_G p l e R s m args below meth c D A nL kc ks Q ws lv (pc + 2) (.int v' :: st)) : g_G p l e R s m args below meth c D A nL kc ks Q ws lv pc st := by
  subst hv
  exact fun H locs ls hP hD hS hl => lv_ldc X.1 X.2.1 X.2.2.2.1 (X.2.2.2.2.1 _ hk) hd (kk H locs ls hP hD hS hl)
theorem g_ldc2 (X : g_Cx p s m args c D A nL cc own cI cJ cZ) {i : Nat} {v : Int64} (hk : Cond.constantLong own i v ∈ wsL_law) (hd : decode cc pc = .ok (.ldc2_w i, 3)) (kk : g_G p l e R s m args below meth c D A nL kc ks Q ws lv (pc + 3) (.long v :: st)) : g_G p l e R s m args below meth c D A nL kc ks Q ws lv pc st := fun H locs ls hP hD hS hl => lv_ldc2 X.1 X.2.1 X.2.2.2.1 (X.2.2.2.2.1 _ hk) hd (kk H locs ls hP hD hS hl)
theorem g_ldcf (X : g_Cx p s m args c D A nL cc own cI cJ cZ) {i : Nat} {v : UInt32} (hk : Cond.constantFloat own i v ∈ wsL_law) (hd : decode cc pc = .ok (.ldc i, 2)) (kk : g_G p l e R s m args below meth c D A nL kc ks Q ws lv (pc + 2) (.float v :: st)) : g_G p l e R s m args below meth c D A nL kc ks Q ws lv pc st := fun H locs ls hP hD hS hl => lv_ldcf X.1 X.2.1 X.2.2.2.1 (X.2.2.2.2.1 _ hk) hd (kk H locs ls hP hD hS hl)
theorem g_iload_n (X : g_Cx p s m args c D A nL cc own cI cJ cZ) {k : Fin 4} {i : Nat} {x : Int32} (q : Nat) (hd : decode cc pc = .ok (.iload_n k, 1)) (hi : (k : Nat) = i) (hq : lv[q]? = some (i, .int x)) (kk : g_G p l e R s m args below meth c D A nL kc ks Q ws lv (pc + 1) (.int x :: st)) : g_G p l e R s m args below meth c D A nL kc ks Q ws lv pc st := fun H locs ls hP hD hS hl => lv_iload_n X.1 X.2.1 hd hi (lv_at hl q hq) (kk H locs ls hP hD hS hl)
theorem g_iload (X : g_Cx p s m args c D A nL cc own cI cJ cZ) {i : Nat} {x : Int32} (q : Nat) (hd : decode cc pc = .ok (.iload i, 2)) (hq : lv[q]? = some (i, .int x)) (kk : g_G p l e R s m args below meth c D A nL kc ks Q ws lv (pc + 2) (.int x :: st)) : g_G p l e R s m args below meth c D A nL kc ks Q ws lv pc st := fun H locs ls hP hD hS hl => lv_iload X.1 X.2.1 hd (lv_at hl q hq) (kk H locs ls hP hD hS hl)
theorem g_lload_n (X : g_Cx p s m args c D A nL cc own cI cJ cZ) {k : Fin 4} {i : Nat} {x : Int64} (q : Nat) (hd : decode cc pc = .ok (.lload_n k, 1)) (hi : (k : Nat) = i) (hq : lv[q]? = some (i, .long x)) (kk : g_G p l e R s m args below meth c D A nL kc ks Q ws lv (pc + 1) (.long x :: st)) : g_G p l e R s m args below meth c D A nL kc ks Q ws lv pc st := fun H locs ls hP hD hS hl => lv_lload_n X.1 X.2.1 hd hi (lv_at hl q hq) (kk H locs ls hP hD hS hl)
theorem g_lload (X : g_Cx p s m args c D A nL cc own cI cJ cZ) {i : Nat} {x : Int64} (q : Nat) (hd : decode cc pc = .ok (.lload i, 2)) (hq : lv[q]? = some (i, .long x)) (kk : g_G p l e R s m args below meth c D A nL kc ks Q ws lv (pc + 2) (.long x :: st)) : g_G p l e R s m args below meth c D A nL kc ks Q ws lv pc st := fun H locs ls hP hD hS hl => lv_lload X.1 X.2.1 hd (lv_at hl q hq) (kk H locs ls hP hD hS hl)
theorem g_aload_n (X : g_Cx p s m args c D A nL cc own cI cJ cZ) {k : Fin 4} {i : Nat} {x : Nat} (q : Nat) (hd : decode cc pc = .ok (.aload_n k, 1)) (hi : (k : Nat) = i) (hq : lv[q]? = some (i, .ref x)) (kk : g_G p l e R s m args below meth c D A nL kc ks Q ws lv (pc + 1) (.ref x :: st)) : g_G p l e R s m args below meth c D A nL kc ks Q ws lv pc st := fun H locs ls hP hD hS hl => lv_aload_n X.1 X.2.1 hd hi (lv_at hl q hq) (kk H locs ls hP hD hS hl)
theorem g_aload (X : g_Cx p s m args c D A nL cc own cI cJ cZ) {i : Nat} {x : Nat} (q : Nat) (hd : decode cc pc = .ok (.aload i, 2)) (hq : lv[q]? = some (i, .ref x)) (kk : g_G p l e R s m args below meth c D A nL kc ks Q ws lv (pc + 2) (.ref x :: st)) : g_G p l e R s m args below meth c D A nL kc ks Q ws lv pc st := fun H locs ls hP hD hS hl => lv_aload X.1 X.2.1 hd (lv_at hl q hq) (kk H locs ls hP hD hS hl)
theorem g_fload_n (X : g_Cx p s m args c D A nL cc own cI cJ cZ) {k : Fin 4} {i : Nat} {x : UInt32} (q : Nat) (hd : decode cc pc = .ok (.fload_n k, 1)) (hi : (k : Nat) = i) (hq : lv[q]? = some (i, .float x)) (kk : g_G p l e R s m args below meth c D A nL kc ks Q ws lv (pc + 1) (.float x :: st)) : g_G p l e R s m args below meth c D A nL kc ks Q ws lv pc st := fun H locs ls hP hD hS hl => lv_fload_n X.1 X.2.1 hd hi (lv_at hl q hq) (kk H locs ls hP hD hS hl)
theorem g_istore_n (X : g_Cx p s m args c D A nL cc own cI cJ cZ) (lv' : List (Nat × Value)) {k : Fin 4} {i : Nat} {x : Int32} (hd : decode cc pc = .ok (.istore_n k, 1)) (hi : (k : Nat) = i) (hn : i < nL) (hl2 : (i, Value.int x) :: lv.filter (fun q => !(q.1 == i) && !(q.1 + 1 == i && q.2.category == 2)) = lv') (kk : g_G p l e R s m args below meth c D A nL kc ks Q ws lv' (pc + 1) st) : g_G p l e R s m args below meth c D A nL kc ks Q ws lv pc (.int x :: st) := fun H locs ls hP hD hS hl => lv_istore_n X.1 X.2.1 hd hi hl hn hl2 (fun ls hl => kk H locs ls hP hD hS hl)
theorem g_istore (X : g_Cx p s m args c D A nL cc own cI cJ cZ) (lv' : List (Nat × Value)) {i : Nat} {x : Int32} (hd : decode cc pc = .ok (.istore i, 2)) (hn : i < nL) (hl2 : (i, Value.int x) :: lv.filter (fun q => !(q.1 == i) && !(q.1 + 1 == i && q.2.category == 2)) = lv') (kk : g_G p l e R s m args below meth c D A nL kc ks Q ws lv' (pc + 2) st) : g_G p l e R s m args below meth c D A nL kc ks Q ws lv pc (.int x :: st) := fun H locs ls hP hD hS hl => lv_istore X.1 X.2.1 hd hl hn hl2 (fun ls hl => kk H locs ls hP hD hS hl)
theorem g_lstore_n (X : g_Cx p s m args c D A nL cc own cI cJ cZ) (lv' : List (Nat × Value)) {k : Fin 4} {i : Nat} {x : Int64} (hd : decode cc pc = .ok (.lstore_n k, 1)) (hi : (k : Nat) = i) (hn : i + 1 < nL) (hl2 : (i, Value.long x) :: lv.filter (fun q => !(q.1 == i) && (!(q.1 == i + 1) && !(q.1 + 1 == i && q.2.category == 2))) = lv') (kk : g_G p l e R s m args below meth c D A nL kc ks Q ws lv' (pc + 1) st) : g_G p l e R s m args below meth c D A nL kc ks Q ws lv pc (.long x :: st) := fun H locs ls hP hD hS hl => lv_lstore_n X.1 X.2.1 hd hi hl hn hl2 (fun ls hl => kk H locs ls hP hD hS hl)
theorem g_lstore (X : g_Cx p s m args c D A nL cc own cI cJ cZ) (lv' : List (Nat × Value)) {i : Nat} {x : Int64} (hd : decode cc pc = .ok (.lstore i, 2)) (hn : i + 1 < nL) (hl2 : (i, Value.long x) :: lv.filter (fun q => !(q.1 == i) && (!(q.1 == i + 1) && !(q.1 + 1 == i && q.2.category == 2))) = lv') (kk : g_G p l e R s m args below meth c D A nL kc ks Q ws lv' (pc + 2) st) : g_G p l e R s m args below meth c D A nL kc ks Q ws lv pc (.long x :: st) := fun H locs ls hP hD hS hl => lv_lstore X.1 X.2.1 hd hl hn hl2 (fun ls hl => kk H locs ls hP hD hS hl)
theorem g_astore_n (X : g_Cx p s m args c D A nL cc own cI cJ cZ) (lv' : List (Nat × Value)) {k : Fin 4} {i : Nat} {x : Nat} (hd : decode cc pc = .ok (.astore_n k, 1)) (hi : (k : Nat) = i) (hn : i < nL) (hl2 : (i, Value.ref x) :: lv.filter (fun q => !(q.1 == i) && !(q.1 + 1 == i && q.2.category == 2)) = lv') (kk : g_G p l e R s m args below meth c D A nL kc ks Q ws lv' (pc + 1) st) : g_G p l e R s m args below meth c D A nL kc ks Q ws lv pc (.ref x :: st) := fun H locs ls hP hD hS hl => lv_astore_n X.1 X.2.1 hd hi hl hn hl2 (fun ls hl => kk H locs ls hP hD hS hl)
theorem g_astore (X : g_Cx p s m args c D A nL cc own cI cJ cZ) (lv' : List (Nat × Value)) {i : Nat} {x : Nat} (hd : decode cc pc = .ok (.astore i, 2)) (hn : i < nL) (hl2 : (i, Value.ref x) :: lv.filter (fun q => !(q.1 == i) && !(q.1 + 1 == i && q.2.category == 2)) = lv') (kk : g_G p l e R s m args below meth c D A nL kc ks Q ws lv' (pc + 2) st) : g_G p l e R s m args below meth c D A nL kc ks Q ws lv pc (.ref x :: st) := fun H locs ls hP hD hS hl => lv_astore X.1 X.2.1 hd hl hn hl2 (fun ls hl => kk H locs ls hP hD hS hl)
theorem g_fstore_n (X : g_Cx p s m args c D A nL cc own cI cJ cZ) (lv' : List (Nat × Value)) {k : Fin 4} {i : Nat} {x : UInt32} (hd : decode cc pc = .ok (.fstore_n k, 1)) (hi : (k : Nat) = i) (hn : i < nL) (hl2 : (i, Value.float x) :: lv.filter (fun q => !(q.1 == i) && !(q.1 + 1 == i && q.2.category == 2)) = lv') (kk : g_G p l e R s m args below meth c D A nL kc ks Q ws lv' (pc + 1) st) : g_G p l e R s m args below meth c D A nL kc ks Q ws lv pc (.float x :: st) := fun H locs ls hP hD hS hl => lv_fstore_n X.1 X.2.1 hd hi hl hn hl2 (fun ls hl => kk H locs ls hP hD hS hl)
/-- a counter that goes on: v by its own proof -/
theorem g_iinc (X : g_Cx p s m args c D A nL cc own cI cJ cZ) (lv' : List (Nat × Value)) {i q : Nat} {n : Int} {x v : Int32} (hd : decode cc pc = .ok (.iinc i n, 3)) (hq : lv[q]? = some (i, .int x)) (hv : x + Int32.ofInt n = v) (hn : i < nL) (hl2 : (i, Value.int v) :: lv.filter (fun q => !(q.1 == i) && !(q.1 + 1 == i && q.2.category == 2)) = lv') (kk : g_G p l e R s m args below meth c D A nL kc ks Q ws lv' (pc + 3) st) : g_G p l e R s m args below meth c D A nL kc ks Q ws lv pc st := fun H locs ls hP hD hS hl => lv_iinc X.1 X.2.1 hd hl hq hv hn hl2 (fun ls hl => kk H locs ls hP hD hS hl)
/-- fewer locals, in any order -/
theorem g_lv (lv' : List (Nat × Value)) (is : List Nat) (hl2 : lv_pick lv is = lv') (kk : g_G p l e R s m args below meth c D A nL kc ks Q ws lv' pc st) : g_G p l e R s m args below meth c D A nL kc ks Q ws lv pc st := fun H locs ls hP hD hS hl => kk H locs ls hP hD hS (lv_sub hl is hl2)
/-- the same world by another name -/
theorem g_ws (h : ws = ws') (kk : g_G p l e R s m args below meth c D A nL kc ks Q ws' lv pc st) : g_G p l e R s m args below meth c D A nL kc ks Q ws lv pc st := h ▸ kk
theorem g_st {st' : List Value} (h : st = st') (kk : g_G p l e R s m args below meth c D A nL kc ks Q ws lv pc st') : g_G p l e R s m args below meth c D A nL kc ks Q ws lv pc st := h ▸ kk
theorem g_dup (X : g_Cx p s m args c D A nL cc own cI cJ cZ) {va : Value} (hd : decode cc pc = .ok (.dup, 1)) (hva : va.category = 1) (kk : g_G p l e R s m args below meth c D A nL kc ks Q ws lv (pc + 1) (va :: va :: st)) : g_G p l e R s m args below meth c D A nL kc ks Q ws lv pc (va :: st) := fun H locs ls hP hD hS hl => lv_dup X.1 X.2.1 hd hva (kk H locs ls hP hD hS hl)
theorem g_pop (X : g_Cx p s m args c D A nL cc own cI cJ cZ) {va : Value} (hd : decode cc pc = .ok (.pop, 1)) (hva : va.category = 1) (kk : g_G p l e R s m args below meth c D A nL kc ks Q ws lv (pc + 1) st) : g_G p l e R s m args below meth c D A nL kc ks Q ws lv pc (va :: st) := fun H locs ls hP hD hS hl => lv_pop X.1 X.2.1 hd hva (kk H locs ls hP hD hS hl)
theorem g_pop2_2 (X : g_Cx p s m args c D A nL cc own cI cJ cZ) {va : Value} (hd : decode cc pc = .ok (.pop2, 1)) (hva : va.category = 2) (kk : g_G p l e R s m args below meth c D A nL kc ks Q ws lv (pc + 1) st) : g_G p l e R s m args below meth c D A nL kc ks Q ws lv pc (va :: st) := fun H locs ls hP hD hS hl => lv_pop2_2 X.1 X.2.1 hd hva (kk H locs ls hP hD hS hl)
theorem g_dup_x1 (X : g_Cx p s m args c D A nL cc own cI cJ cZ) {va vb : Value} (hd : decode cc pc = .ok (.dup_x1, 1)) (hva : va.category = 1) (hvb : vb.category = 1) (kk : g_G p l e R s m args below meth c D A nL kc ks Q ws lv (pc + 1) (va :: vb :: va :: st)) : g_G p l e R s m args below meth c D A nL kc ks Q ws lv pc (va :: vb :: st) := fun H locs ls hP hD hS hl => lv_dup_x1 X.1 X.2.1 hd hva hvb (kk H locs ls hP hD hS hl)
theorem g_dup2_11 (X : g_Cx p s m args c D A nL cc own cI cJ cZ) {va vb : Value} (hd : decode cc pc = .ok (.dup2, 1)) (hva : va.category = 1) (hvb : vb.category = 1) (kk : g_G p l e R s m args below meth c D A nL kc ks Q ws lv (pc + 1) (va :: vb :: va :: vb :: st)) : g_G p l e R s m args below meth c D A nL kc ks Q ws lv pc (va :: vb :: st) := fun H locs ls hP hD hS hl => lv_dup2_11 X.1 X.2.1 hd hva hvb (kk H locs ls hP hD hS hl)
theorem g_dup2_x2 (X : g_Cx p s m args c D A nL cc own cI cJ cZ) {va vb vd : Value} (hd : decode cc pc = .ok (.dup2_x2, 1)) (hva : va.category = 2) (hvb : vb.category = 1) (hvd : vd.category = 1) (kk : g_G p l e R s m args below meth c D A nL kc ks Q ws lv (pc + 1) (va :: vb :: vd :: va :: st)) : g_G p l e R s m args below meth c D A nL kc ks Q ws lv pc (va :: vb :: vd :: st) := fun H locs ls hP hD hS hl => lv_dup2_x2_2 X.1 X.2.1 hd hva hvb hvd (kk H locs ls hP hD hS hl)
theorem g_iadd (X : g_Cx p s m args c D A nL cc own cI cJ cZ) {x y v : Int32} (hd : decode cc pc = .ok (.iadd, 1)) (hv : x + y = v) (kk : g_G p l e R s m args below meth c D A nL kc ks Q ws lv (pc + 1) (.int v :: st)) : g_G p l e R s m args below meth c D A nL kc ks Q ws lv pc (.int y :: .int x :: st) := by
  subst hv
  exact fun H locs ls hP hD hS hl => lv_iadd X.1 X.2.1 hd (kk H locs ls hP hD hS hl)
theorem g_isub (X : g_Cx p s m args c D A nL cc own cI cJ cZ) {x y v : Int32} (hd : decode cc pc = .ok (.isub, 1)) (hv : x - y = v) (kk : g_G p l e R s m args below meth c D A nL kc ks Q ws lv (pc + 1) (.int v :: st)) : g_G p l e R s m args below meth c D A nL kc ks Q ws lv pc (.int y :: .int x :: st) := by
  subst hv
  exact fun H locs ls hP hD hS hl => lv_isub X.1 X.2.1 hd (kk H locs ls hP hD hS hl)
theorem g_imul (X : g_Cx p s m args c D A nL cc own cI cJ cZ) {x y v : Int32} (hd : decode cc pc = .ok (.imul, 1)) (hv : x * y = v) (kk : g_G p l e R s m args below meth c D A nL kc ks Q ws lv (pc + 1) (.int v :: st)) : g_G p l e R s m args below meth c D A nL kc ks Q ws lv pc (.int y :: .int x :: st) := by
  subst hv
  exact fun H locs ls hP hD hS hl => lv_imul X.1 X.2.1 hd (kk H locs ls hP hD hS hl)
theorem g_ladd (X : g_Cx p s m args c D A nL cc own cI cJ cZ) {x y v : Int64} (hd : decode cc pc = .ok (.ladd, 1)) (hv : x + y = v) (kk : g_G p l e R s m args below meth c D A nL kc ks Q ws lv (pc + 1) (.long v :: st)) : g_G p l e R s m args below meth c D A nL kc ks Q ws lv pc (.long y :: .long x :: st) := by
  subst hv
  exact fun H locs ls hP hD hS hl => lv_ladd X.1 X.2.1 hd (kk H locs ls hP hD hS hl)
theorem g_lsub (X : g_Cx p s m args c D A nL cc own cI cJ cZ) {x y v : Int64} (hd : decode cc pc = .ok (.lsub, 1)) (hv : x - y = v) (kk : g_G p l e R s m args below meth c D A nL kc ks Q ws lv (pc + 1) (.long v :: st)) : g_G p l e R s m args below meth c D A nL kc ks Q ws lv pc (.long y :: .long x :: st) := by
  subst hv
  exact fun H locs ls hP hD hS hl => lv_lsub X.1 X.2.1 hd (kk H locs ls hP hD hS hl)
theorem g_lmul (X : g_Cx p s m args c D A nL cc own cI cJ cZ) {x y v : Int64} (hd : decode cc pc = .ok (.lmul, 1)) (hv : x * y = v) (kk : g_G p l e R s m args below meth c D A nL kc ks Q ws lv (pc + 1) (.long v :: st)) : g_G p l e R s m args below meth c D A nL kc ks Q ws lv pc (.long y :: .long x :: st) := by
  subst hv
  exact fun H locs ls hP hD hS hl => lv_lmul X.1 X.2.1 hd (kk H locs ls hP hD hS hl)
theorem g_idiv (X : g_Cx p s m args c D A nL cc own cI cJ cZ) {x y v : Int32} (hd : decode cc pc = .ok (.idiv, 1)) (hne : ¬ y = 0) (hv : x / y = v) (kk : g_G p l e R s m args below meth c D A nL kc ks Q ws lv (pc + 1) (.int v :: st)) : g_G p l e R s m args below meth c D A nL kc ks Q ws lv pc (.int y :: .int x :: st) := by
  subst hv
  exact fun H locs ls hP hD hS hl => lv_idiv X.1 X.2.1 hd hne (kk H locs ls hP hD hS hl)
theorem g_ldiv (X : g_Cx p s m args c D A nL cc own cI cJ cZ) {x y v : Int64} (hd : decode cc pc = .ok (.ldiv, 1)) (hne : ¬ y = 0) (hv : x / y = v) (kk : g_G p l e R s m args below meth c D A nL kc ks Q ws lv (pc + 1) (.long v :: st)) : g_G p l e R s m args below meth c D A nL kc ks Q ws lv pc (.long y :: .long x :: st) := by
  subst hv
  exact fun H locs ls hP hD hS hl => lv_ldiv X.1 X.2.1 hd hne (kk H locs ls hP hD hS hl)
theorem g_irem (X : g_Cx p s m args c D A nL cc own cI cJ cZ) {x y v : Int32} (hd : decode cc pc = .ok (.irem, 1)) (hne : ¬ y = 0) (hv : x - x / y * y = v) (kk : g_G p l e R s m args below meth c D A nL kc ks Q ws lv (pc + 1) (.int v :: st)) : g_G p l e R s m args below meth c D A nL kc ks Q ws lv pc (.int y :: .int x :: st) := by
  subst hv
  exact fun H locs ls hP hD hS hl => lv_irem X.1 X.2.1 hd hne (kk H locs ls hP hD hS hl)
theorem g_i2l (X : g_Cx p s m args c D A nL cc own cI cJ cZ) {x : Int32} {v : Int64} (hd : decode cc pc = .ok (.i2l, 1)) (hv : x.toInt64 = v) (kk : g_G p l e R s m args below meth c D A nL kc ks Q ws lv (pc + 1) (.long v :: st)) : g_G p l e R s m args below meth c D A nL kc ks Q ws lv pc (.int x :: st) := fun H locs ls hP hD hS hl => lv_i2l X.1 X.2.1 hd hv (kk H locs ls hP hD hS hl)
theorem g_l2i (X : g_Cx p s m args c D A nL cc own cI cJ cZ) {x : Int64} {v : Int32} (hd : decode cc pc = .ok (.l2i, 1)) (hv : x.toInt32 = v) (kk : g_G p l e R s m args below meth c D A nL kc ks Q ws lv (pc + 1) (.int v :: st)) : g_G p l e R s m args below meth c D A nL kc ks Q ws lv pc (.long x :: st) := fun H locs ls hP hD hS hl => lv_l2i X.1 X.2.1 hd hv (kk H locs ls hP hD hS hl)
theorem g_ishl (X : g_Cx p s m args c D A nL cc own cI cJ cZ) {x y v : Int32} (hd : decode cc pc = .ok (.ishl, 1)) (hv : x <<< (y &&& 31) = v) (kk : g_G p l e R s m args below meth c D A nL kc ks Q ws lv (pc + 1) (.int v :: st)) : g_G p l e R s m args below meth c D A nL kc ks Q ws lv pc (.int y :: .int x :: st) := by
  subst hv
  exact fun H locs ls hP hD hS hl => lv_ishl X.1 X.2.1 hd (kk H locs ls hP hD hS hl)
theorem g_ior (X : g_Cx p s m args c D A nL cc own cI cJ cZ) {x y v : Int32} (hd : decode cc pc = .ok (.ior, 1)) (hv : x ||| y = v) (kk : g_G p l e R s m args below meth c D A nL kc ks Q ws lv (pc + 1) (.int v :: st)) : g_G p l e R s m args below meth c D A nL kc ks Q ws lv pc (.int y :: .int x :: st) := by
  subst hv
  exact fun H locs ls hP hD hS hl => lv_ior X.1 X.2.1 hd (kk H locs ls hP hD hS hl)
theorem g_iand (X : g_Cx p s m args c D A nL cc own cI cJ cZ) {x y v : Int32} (hd : decode cc pc = .ok (.iand, 1)) (hv : x &&& y = v) (kk : g_G p l e R s m args below meth c D A nL kc ks Q ws lv (pc + 1) (.int v :: st)) : g_G p l e R s m args below meth c D A nL kc ks Q ws lv pc (.int y :: .int x :: st) := by
  subst hv
  exact fun H locs ls hP hD hS hl => lv_iand X.1 X.2.1 hd (kk H locs ls hP hD hS hl)
theorem g_if_eq (X : g_Cx p s m args c D A nL cc own cI cJ cZ) {x : Int32} {off : Int} {tgt : Nat} (hd : decode cc pc = .ok (.ifCond .eq off, 3)) (ht : (pc : Int) + off = (tgt : Int)) (kt : x = 0 → g_G p l e R s m args below meth c D A nL kc ks Q ws lv tgt st) (kf : ¬ x = 0 → g_G p l e R s m args below meth c D A nL kc ks Q ws lv (pc + 3) st) : g_G p l e R s m args below meth c D A nL kc ks Q ws lv pc (.int x :: st) := fun H locs ls hP hD hS hl => lv_if_eq X.1 X.2.1 hd ht (fun h => kt h H locs ls hP hD hS hl) (fun h => kf h H locs ls hP hD hS hl)
theorem g_if_ne (X : g_Cx p s m args c D A nL cc own cI cJ cZ) {x : Int32} {off : Int} {tgt : Nat} (hd : decode cc pc = .ok (.ifCond .ne off, 3)) (ht : (pc : Int) + off = (tgt : Int)) (kt : ¬ x = 0 → g_G p l e R s m args below meth c D A nL kc ks Q ws lv tgt st) (kf : x = 0 → g_G p l e R s m args below meth c D A nL kc ks Q ws lv (pc + 3) st) : g_G p l e R s m args below meth c D A nL kc ks Q ws lv pc (.int x :: st) := fun H locs ls hP hD hS hl => lv_if_ne X.1 X.2.1 hd ht (fun h => kt h H locs ls hP hD hS hl) (fun h => kf h H locs ls hP hD hS hl)
theorem g_if_lt (X : g_Cx p s m args c D A nL cc own cI cJ cZ) {x : Int32} {off : Int} {tgt : Nat} (hd : decode cc pc = .ok (.ifCond .lt off, 3)) (ht : (pc : Int) + off = (tgt : Int)) (kt : x < 0 → g_G p l e R s m args below meth c D A nL kc ks Q ws lv tgt st) (kf : ¬ x < 0 → g_G p l e R s m args below meth c D A nL kc ks Q ws lv (pc + 3) st) : g_G p l e R s m args below meth c D A nL kc ks Q ws lv pc (.int x :: st) := fun H locs ls hP hD hS hl => lv_if_lt X.1 X.2.1 hd ht (fun h => kt h H locs ls hP hD hS hl) (fun h => kf h H locs ls hP hD hS hl)
theorem g_if_ge (X : g_Cx p s m args c D A nL cc own cI cJ cZ) {x : Int32} {off : Int} {tgt : Nat} (hd : decode cc pc = .ok (.ifCond .ge off, 3)) (ht : (pc : Int) + off = (tgt : Int)) (kt : 0 ≤ x → g_G p l e R s m args below meth c D A nL kc ks Q ws lv tgt st) (kf : ¬ 0 ≤ x → g_G p l e R s m args below meth c D A nL kc ks Q ws lv (pc + 3) st) : g_G p l e R s m args below meth c D A nL kc ks Q ws lv pc (.int x :: st) := fun H locs ls hP hD hS hl => lv_if_ge X.1 X.2.1 hd ht (fun h => kt h H locs ls hP hD hS hl) (fun h => kf h H locs ls hP hD hS hl)
theorem g_if_gt (X : g_Cx p s m args c D A nL cc own cI cJ cZ) {x : Int32} {off : Int} {tgt : Nat} (hd : decode cc pc = .ok (.ifCond .gt off, 3)) (ht : (pc : Int) + off = (tgt : Int)) (kt : 0 < x → g_G p l e R s m args below meth c D A nL kc ks Q ws lv tgt st) (kf : ¬ 0 < x → g_G p l e R s m args below meth c D A nL kc ks Q ws lv (pc + 3) st) : g_G p l e R s m args below meth c D A nL kc ks Q ws lv pc (.int x :: st) := fun H locs ls hP hD hS hl => lv_if_gt X.1 X.2.1 hd ht (fun h => kt h H locs ls hP hD hS hl) (fun h => kf h H locs ls hP hD hS hl)
theorem g_if_le (X : g_Cx p s m args c D A nL cc own cI cJ cZ) {x : Int32} {off : Int} {tgt : Nat} (hd : decode cc pc = .ok (.ifCond .le off, 3)) (ht : (pc : Int) + off = (tgt : Int)) (kt : x ≤ 0 → g_G p l e R s m args below meth c D A nL kc ks Q ws lv tgt st) (kf : ¬ x ≤ 0 → g_G p l e R s m args below meth c D A nL kc ks Q ws lv (pc + 3) st) : g_G p l e R s m args below meth c D A nL kc ks Q ws lv pc (.int x :: st) := fun H locs ls hP hD hS hl => lv_if_le X.1 X.2.1 hd ht (fun h => kt h H locs ls hP hD hS hl) (fun h => kf h H locs ls hP hD hS hl)
theorem g_icmp_eq (X : g_Cx p s m args c D A nL cc own cI cJ cZ) {x y : Int32} {off : Int} {tgt : Nat} (hd : decode cc pc = .ok (.if_icmp .eq off, 3)) (ht : (pc : Int) + off = (tgt : Int)) (kt : x = y → g_G p l e R s m args below meth c D A nL kc ks Q ws lv tgt st) (kf : ¬ x = y → g_G p l e R s m args below meth c D A nL kc ks Q ws lv (pc + 3) st) : g_G p l e R s m args below meth c D A nL kc ks Q ws lv pc (.int y :: .int x :: st) := fun H locs ls hP hD hS hl => lv_icmp_eq X.1 X.2.1 hd ht (fun h => kt h H locs ls hP hD hS hl) (fun h => kf h H locs ls hP hD hS hl)
theorem g_icmp_ne (X : g_Cx p s m args c D A nL cc own cI cJ cZ) {x y : Int32} {off : Int} {tgt : Nat} (hd : decode cc pc = .ok (.if_icmp .ne off, 3)) (ht : (pc : Int) + off = (tgt : Int)) (kt : ¬ x = y → g_G p l e R s m args below meth c D A nL kc ks Q ws lv tgt st) (kf : x = y → g_G p l e R s m args below meth c D A nL kc ks Q ws lv (pc + 3) st) : g_G p l e R s m args below meth c D A nL kc ks Q ws lv pc (.int y :: .int x :: st) := fun H locs ls hP hD hS hl => lv_icmp_ne X.1 X.2.1 hd ht (fun h => kt h H locs ls hP hD hS hl) (fun h => kf h H locs ls hP hD hS hl)
theorem g_icmp_lt (X : g_Cx p s m args c D A nL cc own cI cJ cZ) {x y : Int32} {off : Int} {tgt : Nat} (hd : decode cc pc = .ok (.if_icmp .lt off, 3)) (ht : (pc : Int) + off = (tgt : Int)) (kt : x < y → g_G p l e R s m args below meth c D A nL kc ks Q ws lv tgt st) (kf : ¬ x < y → g_G p l e R s m args below meth c D A nL kc ks Q ws lv (pc + 3) st) : g_G p l e R s m args below meth c D A nL kc ks Q ws lv pc (.int y :: .int x :: st) := fun H locs ls hP hD hS hl => lv_icmp_lt X.1 X.2.1 hd ht (fun h => kt h H locs ls hP hD hS hl) (fun h => kf h H locs ls hP hD hS hl)
theorem g_icmp_ge (X : g_Cx p s m args c D A nL cc own cI cJ cZ) {x y : Int32} {off : Int} {tgt : Nat} (hd : decode cc pc = .ok (.if_icmp .ge off, 3)) (ht : (pc : Int) + off = (tgt : Int)) (kt : y ≤ x → g_G p l e R s m args below meth c D A nL kc ks Q ws lv tgt st) (kf : ¬ y ≤ x → g_G p l e R s m args below meth c D A nL kc ks Q ws lv (pc + 3) st) : g_G p l e R s m args below meth c D A nL kc ks Q ws lv pc (.int y :: .int x :: st) := fun H locs ls hP hD hS hl => lv_icmp_ge X.1 X.2.1 hd ht (fun h => kt h H locs ls hP hD hS hl) (fun h => kf h H locs ls hP hD hS hl)
theorem g_icmp_gt (X : g_Cx p s m args c D A nL cc own cI cJ cZ) {x y : Int32} {off : Int} {tgt : Nat} (hd : decode cc pc = .ok (.if_icmp .gt off, 3)) (ht : (pc : Int) + off = (tgt : Int)) (kt : y < x → g_G p l e R s m args below meth c D A nL kc ks Q ws lv tgt st) (kf : ¬ y < x → g_G p l e R s m args below meth c D A nL kc ks Q ws lv (pc + 3) st) : g_G p l e R s m args below meth c D A nL kc ks Q ws lv pc (.int y :: .int x :: st) := fun H locs ls hP hD hS hl => lv_icmp_gt X.1 X.2.1 hd ht (fun h => kt h H locs ls hP hD hS hl) (fun h => kf h H locs ls hP hD hS hl)
theorem g_icmp_le (X : g_Cx p s m args c D A nL cc own cI cJ cZ) {x y : Int32} {off : Int} {tgt : Nat} (hd : decode cc pc = .ok (.if_icmp .le off, 3)) (ht : (pc : Int) + off = (tgt : Int)) (kt : x ≤ y → g_G p l e R s m args below meth c D A nL kc ks Q ws lv tgt st) (kf : ¬ x ≤ y → g_G p l e R s m args below meth c D A nL kc ks Q ws lv (pc + 3) st) : g_G p l e R s m args below meth c D A nL kc ks Q ws lv pc (.int y :: .int x :: st) := fun H locs ls hP hD hS hl => lv_icmp_le X.1 X.2.1 hd ht (fun h => kt h H locs ls hP hD hS hl) (fun h => kf h H locs ls hP hD hS hl)
theorem g_lj_eq (X : g_Cx p s m args c D A nL cc own cI cJ cZ) {x y : Int64} {off : Int} {tgt pc1 : Nat} (hd1 : decode cc pc = .ok (.lcmp, 1)) (hpc : pc + 1 = pc1) (hd : decode cc pc1 = .ok (.ifCond .eq off, 3)) (ht : (pc1 : Int) + off = (tgt : Int)) (kt : x = y → g_G p l e R s m args below meth c D A nL kc ks Q ws lv tgt st) (kf : ¬ (x = y) → g_G p l e R s m args below meth c D A nL kc ks Q ws lv (pc1 + 3) st) : g_G p l e R s m args below meth c D A nL kc ks Q ws lv pc (.long y :: .long x :: st) := by
  subst hpc
  exact fun H locs ls hP hD hS hl => W.lcmp X.1 X.2.1 hd1 (lv_if_eq X.1 X.2.1 hd ht (fun h => kt ((lg_cmp_eq x y).mp (by first | exact h | simpa using h)) H locs ls hP hD hS hl) (fun h => kf (fun h2 => h (by first | exact (lg_cmp_eq x y).mpr h2 | simpa using (lg_cmp_eq x y).mpr h2)) H locs ls hP hD hS hl))
theorem g_lj_lt (X : g_Cx p s m args c D A nL cc own cI cJ cZ) {x y : Int64} {off : Int} {tgt pc1 : Nat} (hd1 : decode cc pc = .ok (.lcmp, 1)) (hpc : pc + 1 = pc1) (hd : decode cc pc1 = .ok (.ifCond .lt off, 3)) (ht : (pc1 : Int) + off = (tgt : Int)) (kt : x < y → g_G p l e R s m args below meth c D A nL kc ks Q ws lv tgt st) (kf : ¬ (x < y) → g_G p l e R s m args below meth c D A nL kc ks Q ws lv (pc1 + 3) st) : g_G p l e R s m args below meth c D A nL kc ks Q ws lv pc (.long y :: .long x :: st) := by
  subst hpc
  exact fun H locs ls hP hD hS hl => W.lcmp X.1 X.2.1 hd1 (lv_if_lt X.1 X.2.1 hd ht (fun h => kt ((lg_cmp_lt x y).mp (by first | exact h | simpa using h)) H locs ls hP hD hS hl) (fun h => kf (fun h2 => h (by first | exact (lg_cmp_lt x y).mpr h2 | simpa using (lg_cmp_lt x y).mpr h2)) H locs ls hP hD hS hl))
theorem g_lj_ge (X : g_Cx p s m args c D A nL cc own cI cJ cZ) {x y : Int64} {off : Int} {tgt pc1 : Nat} (hd1 : decode cc pc = .ok (.lcmp, 1)) (hpc : pc + 1 = pc1) (hd : decode cc pc1 = .ok (.ifCond .ge off, 3)) (ht : (pc1 : Int) + off = (tgt : Int)) (kt : y ≤ x → g_G p l e R s m args below meth c D A nL kc ks Q ws lv tgt st) (kf : ¬ (y ≤ x) → g_G p l e R s m args below meth c D A nL kc ks Q ws lv (pc1 + 3) st) : g_G p l e R s m args below meth c D A nL kc ks Q ws lv pc (.long y :: .long x :: st) := by
  subst hpc
  exact fun H locs ls hP hD hS hl => W.lcmp X.1 X.2.1 hd1 (lv_if_ge X.1 X.2.1 hd ht (fun h => kt ((lg_cmp_ge x y).mp (by first | exact h | simpa using h)) H locs ls hP hD hS hl) (fun h => kf (fun h2 => h (by first | exact (lg_cmp_ge x y).mpr h2 | simpa using (lg_cmp_ge x y).mpr h2)) H locs ls hP hD hS hl))
theorem g_lj_gt (X : g_Cx p s m args c D A nL cc own cI cJ cZ) {x y : Int64} {off : Int} {tgt pc1 : Nat} (hd1 : decode cc pc = .ok (.lcmp, 1)) (hpc : pc + 1 = pc1) (hd : decode cc pc1 = .ok (.ifCond .gt off, 3)) (ht : (pc1 : Int) + off = (tgt : Int)) (kt : y < x → g_G p l e R s m args below meth c D A nL kc ks Q ws lv tgt st) (kf : ¬ (y < x) → g_G p l e R s m args below meth c D A nL kc ks Q ws lv (pc1 + 3) st) : g_G p l e R s m args below meth c D A nL kc ks Q ws lv pc (.long y :: .long x :: st) := by
  subst hpc
  exact fun H locs ls hP hD hS hl => W.lcmp X.1 X.2.1 hd1 (lv_if_gt X.1 X.2.1 hd ht (fun h => kt ((lg_cmp_gt x y).mp (by first | exact h | simpa using h)) H locs ls hP hD hS hl) (fun h => kf (fun h2 => h (by first | exact (lg_cmp_gt x y).mpr h2 | simpa using (lg_cmp_gt x y).mpr h2)) H locs ls hP hD hS hl))
theorem g_lj_le (X : g_Cx p s m args c D A nL cc own cI cJ cZ) {x y : Int64} {off : Int} {tgt pc1 : Nat} (hd1 : decode cc pc = .ok (.lcmp, 1)) (hpc : pc + 1 = pc1) (hd : decode cc pc1 = .ok (.ifCond .le off, 3)) (ht : (pc1 : Int) + off = (tgt : Int)) (kt : x ≤ y → g_G p l e R s m args below meth c D A nL kc ks Q ws lv tgt st) (kf : ¬ (x ≤ y) → g_G p l e R s m args below meth c D A nL kc ks Q ws lv (pc1 + 3) st) : g_G p l e R s m args below meth c D A nL kc ks Q ws lv pc (.long y :: .long x :: st) := by
  subst hpc
  exact fun H locs ls hP hD hS hl => W.lcmp X.1 X.2.1 hd1 (lv_if_le X.1 X.2.1 hd ht (fun h => kt ((lg_cmp_le x y).mp (by first | exact h | simpa using h)) H locs ls hP hD hS hl) (fun h => kf (fun h2 => h (by first | exact (lg_cmp_le x y).mpr h2 | simpa using (lg_cmp_le x y).mpr h2)) H locs ls hP hD hS hl))
theorem g_lj_ne (X : g_Cx p s m args c D A nL cc own cI cJ cZ) {x y : Int64} {off : Int} {tgt pc1 : Nat} (hd1 : decode cc pc = .ok (.lcmp, 1)) (hpc : pc + 1 = pc1) (hd : decode cc pc1 = .ok (.ifCond .ne off, 3)) (ht : (pc1 : Int) + off = (tgt : Int)) (kt : ¬ x = y → g_G p l e R s m args below meth c D A nL kc ks Q ws lv tgt st) (kf : x = y → g_G p l e R s m args below meth c D A nL kc ks Q ws lv (pc1 + 3) st) : g_G p l e R s m args below meth c D A nL kc ks Q ws lv pc (.long y :: .long x :: st) := by
  subst hpc
  refine fun H locs ls hP hD hS hl => W.lcmp X.1 X.2.1 hd1 (lv_if_ne X.1 X.2.1 hd ht (fun h => kt (fun h2 => ?_) H locs ls hP hD hS hl) (fun h => kf ?_ H locs ls hP hD hS hl))
  · have h3 := (lg_cmp_eq x y).mpr h2
    simp_all
  · refine (lg_cmp_eq x y).mp ?_
    simp_all
theorem g_goto (X : g_Cx p s m args c D A nL cc own cI cJ cZ) {off : Int} {tgt : Nat} (hd : decode cc pc = .ok (.goto off, 3)) (ht : (pc : Int) + off = (tgt : Int)) (kk : g_G p l e R s m args below meth c D A nL kc ks Q ws lv tgt st) : g_G p l e R s m args below meth c D A nL kc ks Q ws lv pc st := fun H locs ls hP hD hS hl => lv_goto X.1 X.2.1 hd ht (kk H locs ls hP hD hS hl)
theorem g_nI {i : Int32} {j n : Nat} (hi : i = nI j) (hj : j < n) (hn : n < 2 ^ 31) : vp_in i n ∧ i.toNatClampNeg = j := by
  subst hi
  exact ⟨vp_in_nI hj hn, nI_clamp (Nat.lt_trans hj hn)⟩
theorem g_iald (X : g_Cx p s m args c D A nL cc own cI cJ cZ) {a : Nat} (q0 : Nat) {n : Nat} {f : Nat → Int32} (ha : ws[q0]? = some (a, .inl (cI, n, .inl f))) {i : Int32} (j : Nat) (hi : i = nI j) (hj : j < n) (hn : n < 2 ^ 31) {v : Int32} (hv : f j = v) (hd : decode cc pc = .ok (.iaload, 1)) (kk : g_G p l e R s m args below meth c D A nL kc ks Q ws lv (pc + 1) (.int v :: st)) : g_G p l e R s m args below meth c D A nL kc ks Q ws lv pc (.int i :: .ref a :: st) := by
  have h := g_nI hi hj hn
  subst hv
  intro H locs ls hP hD hS hl
  refine va_iald X.1 X.2.1 X.2.2.2.2.2.1.1 hP q0 0 ha rfl h.1 hd ?_
  rw [h.2]
  exact kk H locs ls hP hD hS hl
theorem g_zald (X : g_Cx p s m args c D A nL cc own cI cJ cZ) {a : Nat} (q0 : Nat) {n : Nat} {f : Nat → Int32} (ha : ws[q0]? = some (a, .inl (cZ, n, .inl f))) {i : Int32} (j : Nat) (hi : i = nI j) (hj : j < n) (hn : n < 2 ^ 31) {v : Int32} (hv : f j = v) (hd : decode cc pc = .ok (.baload, 1)) (kk : g_G p l e R s m args below meth c D A nL kc ks Q ws lv (pc + 1) (.int v :: st)) : g_G p l e R s m args below meth c D A nL kc ks Q ws lv pc (.int i :: .ref a :: st) := by
  have h := g_nI hi hj hn
  subst hv
  intro H locs ls hP hD hS hl
  refine va_zald X.1 X.2.1 X.2.2.2.2.2.1.1 hP q0 2 ha rfl h.1 hd ?_
  rw [h.2]
  exact kk H locs ls hP hD hS hl
theorem g_lald (X : g_Cx p s m args c D A nL cc own cI cJ cZ) {a : Nat} (q0 : Nat) {n : Nat} {f : Nat → Int64} (ha : ws[q0]? = some (a, .inl (cJ, n, .inr (.inl f)))) {i : Int32} (j : Nat) (hi : i = nI j) (hj : j < n) (hn : n < 2 ^ 31) {v : Int64} (hv : f j = v) (hd : decode cc pc = .ok (.laload, 1)) (kk : g_G p l e R s m args below meth c D A nL kc ks Q ws lv (pc + 1) (.long v :: st)) : g_G p l e R s m args below meth c D A nL kc ks Q ws lv pc (.int i :: .ref a :: st) := by
  have h := g_nI hi hj hn
  subst hv
  intro H locs ls hP hD hS hl
  refine va_lald X.1 X.2.1 X.2.2.2.2.2.1.1 hP q0 1 ha rfl h.1 hd ?_
  rw [h.2]
  exact kk H locs ls hP hD hS hl
theorem g_iast (X : g_Cx p s m args c D A nL cc own cI cJ cZ) {a : Nat} (q0 : Nat) {n : Nat} {f : Nat → Int32} (ha : ws[q0]? = some (a, .inl (cI, n, .inl f))) {i : Int32} {x : Int32} (j : Nat) (hi : i = nI j) (hj : j < n) (hn : n < 2 ^ 31) (hd : decode cc pc = .ok (.iastore, 1)) (hw : ws.set q0 (a, .inl (cI, n, .inl (upd f j x))) = ws') (kk : g_G p l e R s m args below meth c D A nL kc ks Q ws' lv (pc + 1) st) : g_G p l e R s m args below meth c D A nL kc ks Q ws lv pc (.int x :: .int i :: .ref a :: st) := by
  have h := g_nI hi hj hn
  subst hw
  intro H locs ls hP hD hS hl
  refine va_iast X.1 X.2.1 X.2.2.2.2.2.1.1 hP hD hS q0 0 ha rfl h.1 hd (fun H1 locs1 hP1 hD1 hS1 => ?_)
  rw [h.2] at hP1 hD1
  exact kk H1 locs1 ls hP1 hD1 hS1 hl
theorem g_zast (X : g_Cx p s m args c D A nL cc own cI cJ cZ) {a : Nat} (q0 : Nat) {n : Nat} {f : Nat → Int32} (ha : ws[q0]? = some (a, .inl (cZ, n, .inl f))) {i : Int32} {x : Int32} (j : Nat) (hi : i = nI j) (hj : j < n) (hn : n < 2 ^ 31) (hd : decode cc pc = .ok (.bastore, 1)) (hw : ws.set q0 (a, .inl (cZ, n, .inl (upd f j (vp_nar .boolean x)))) = ws') (kk : g_G p l e R s m args below meth c D A nL kc ks Q ws' lv (pc + 1) st) : g_G p l e R s m args below meth c D A nL kc ks Q ws lv pc (.int x :: .int i :: .ref a :: st) := by
  have h := g_nI hi hj hn
  subst hw
  intro H locs ls hP hD hS hl
  refine va_zast X.1 X.2.1 X.2.2.2.2.2.1.1 hP hD hS q0 2 ha rfl h.1 hd (fun H1 locs1 hP1 hD1 hS1 => ?_)
  rw [h.2] at hP1 hD1
  exact kk H1 locs1 ls hP1 hD1 hS1 hl
theorem g_last (X : g_Cx p s m args c D A nL cc own cI cJ cZ) {a : Nat} (q0 : Nat) {n : Nat} {f : Nat → Int64} (ha : ws[q0]? = some (a, .inl (cJ, n, .inr (.inl f)))) {i : Int32} {x : Int64} (j : Nat) (hi : i = nI j) (hj : j < n) (hn : n < 2 ^ 31) (hd : decode cc pc = .ok (.lastore, 1)) (hw : ws.set q0 (a, .inl (cJ, n, .inr (.inl (vp_updL f j x)))) = ws') (kk : g_G p l e R s m args below meth c D A nL kc ks Q ws' lv (pc + 1) st) : g_G p l e R s m args below meth c D A nL kc ks Q ws lv pc (.long x :: .int i :: .ref a :: st) := by
  have h := g_nI hi hj hn
  subst hw
  intro H locs ls hP hD hS hl
  refine va_last X.1 X.2.1 X.2.2.2.2.2.1.1 hP hD hS q0 1 ha rfl h.1 hd (fun H1 locs1 hP1 hD1 hS1 => ?_)
  rw [h.2] at hP1 hD1
  exact kk H1 locs1 ls hP1 hD1 hS1 hl
theorem g_get (X : g_Cx p s m args c D A nL cc own cI cJ cZ) {C : String} {T : u_T} {N ci index a : Nat} (hin : ∀ w ∈ u_ws C T N, w ∈ wsL_law) (q0 : Nat) {fs : List Value} (he : ws[q0]? = some (a, .inr (ci, fs))) (hc : vwCl[ci]? = some (C, T, N)) (j : Nat) (hj : j < N) (hlink : Cond.fieldLink own index (T j).1 (T j).2.1 (T j).2.2.1 ∈ wsL_law) {v : Value} (hv : fs[j]? = some v) (hd : decode cc pc = .ok (.getfield index, 3)) (kk : g_G p l e R s m args below meth c D A nL kc ks Q ws lv (pc + 3) (v :: st)) : g_G p l e R s m args below meth c D A nL kc ks Q ws lv pc (.ref a :: st) := fun H locs ls hP hD hS hl => va_get X.1 X.2.1 X.2.2.2.2.1 hin X.2.2.2.1 X.2.2.2.2.2.1.1 hP q0 he hc j hj (X.2.2.2.2.1 _ hlink) (fun _ h => h) hv hd (kk H locs ls hP hD hS hl)
theorem g_put (X : g_Cx p s m args c D A nL cc own cI cJ cZ) {C : String} {T : u_T} {N ci index a : Nat} (hin : ∀ w ∈ u_ws C T N, w ∈ wsL_law) (ty0 : Nat → FieldType) (hty : ∀ k, k < N → parseFieldDescriptor (T k).2.2.1 = some (ty0 k)) (hnm : ∀ a, a < N → ∀ b, b < N → a ≠ b → (T a).2.1 ≠ (T b).2.1) (q0 : Nat) {fs : List Value} (he : ws[q0]? = some (a, .inr (ci, fs))) (hc : vwCl[ci]? = some (C, T, N)) (j : Nat) (hj : j < N) (hlink : Cond.fieldLink own index (T j).1 (T j).2.1 (T j).2.2.1 ∈ wsL_law) (hfin : (T j).2.2.2 = false) {v : Value} (hn : narrow (ty0 j) v = v) (hfit : fits (ty0 j) v = true) (hl0 : j < fs.length) (hd : decode cc pc = .ok (.putfield index, 3)) (hw : ws.set q0 (a, .inr (ci, fs.set j v)) = ws') (kk : g_G p l e R s m args below meth c D A nL kc ks Q ws' lv (pc + 3) st) : g_G p l e R s m args below meth c D A nL kc ks Q ws lv pc (v :: .ref a :: st) := by
  subst hw
  exact fun H locs ls hP hD hS hl => va_put X.1 X.2.1 X.2.2.2.2.1 hin ty0 hty hnm X.2.2.2.1 X.2.2.2.2.2.1.1 hP hD hS q0 he hc j hj (X.2.2.2.2.1 _ hlink) (fun _ h => h) hfin (hty j hj) hn hfit hl0 hd (fun H1 locs1 hP1 hD1 hS1 => kk H1 locs1 ls hP1 hD1 hS1 hl)
theorem g_putF (X : g_Cx p s m args c D A nL cc own cI cJ cZ) {C : String} {T : u_T} {N ci index a : Nat} (hin : ∀ w ∈ u_ws C T N, w ∈ wsL_law) (ty0 : Nat → FieldType) (hty : ∀ k, k < N → parseFieldDescriptor (T k).2.2.1 = some (ty0 k)) (hnm : ∀ a, a < N → ∀ b, b < N → a ≠ b → (T a).2.1 ≠ (T b).2.1) (hmn : meth.name = "<init>") (q0 : Nat) {fs : List Value} (he : ws[q0]? = some (a, .inr (ci, fs))) (hc : vwCl[ci]? = some (C, T, N)) (j : Nat) (hj : j < N) (hlink : Cond.fieldLink own index (T j).1 (T j).2.1 (T j).2.2.1 ∈ wsL_law) (hfin : (T j).2.2.2 = true) (hdecl : (T j).1 = own) {v : Value} (hn : narrow (ty0 j) v = v) (hfit : fits (ty0 j) v = true) (hl0 : j < fs.length) (hd : decode cc pc = .ok (.putfield index, 3)) (hw : ws.set q0 (a, .inr (ci, fs.set j v)) = ws') (kk : g_G p l e R s m args below meth c D A nL kc ks Q ws' lv (pc + 3) st) : g_G p l e R s m args below meth c D A nL kc ks Q ws lv pc (v :: .ref a :: st) := by
  subst hw
  exact fun H locs ls hP hD hS hl => va_putF X.1 X.2.1 X.2.2.2.2.1 hin ty0 hty hnm X.2.2.2.1 X.2.2.2.2.2.1.1 hP hD hS q0 he hc j hj (X.2.2.2.2.1 _ hlink) (fun _ h => h) hfin hmn hdecl (hty j hj) hn hfit hl0 hd (fun H1 locs1 hP1 hD1 hS1 => kk H1 locs1 ls hP1 hD1 hS1 hl)
theorem g_iret (X : g_Cx p s m args c D A nL cc own cI cJ cZ) (hr : meth.sig.returnType = some .int) (hlk : meth.locks = false) (hQ : MQ below (g_Post D A Φ) args s kc ks A = Q) {v : Int32} (hd : decode cc pc = .ok (.ireturn, 1)) (hΦ : Φ (some (.int v)) ws) : g_G p l e R s m args below meth c D A nL kc ks Q ws lv pc [.int v] := by
  subst hQ
  exact fun H locs ls hP hD hS hl => W.iret X.1 X.2.1 hr (fun t ht hW => ⟨⟨_, _, rfl, hΦ, by rw [ht]; exact hP, hD⟩, hS.F ht⟩) hS.2.2 hd hlk
theorem g_zret (X : g_Cx p s m args c D A nL cc own cI cJ cZ) (hr : meth.sig.returnType = some .boolean) (hlk : meth.locks = false) (hQ : MQ below (g_Post D A Φ) args s kc ks A = Q) {v : Int32} (hz : narrow .boolean (.int v) = .int v) (hd : decode cc pc = .ok (.ireturn, 1)) (hΦ : Φ (some (.int v)) ws) : g_G p l e R s m args below meth c D A nL kc ks Q ws lv pc [.int v] := by
  subst hQ
  exact fun H locs ls hP hD hS hl => W.zret X.1 X.2.1 hr hz (fun t ht hW => ⟨⟨_, _, rfl, hΦ, by rw [ht]; exact hP, hD⟩, hS.F ht⟩) hS.2.2 hd hlk
theorem g_lret (X : g_Cx p s m args c D A nL cc own cI cJ cZ) (hr : meth.sig.returnType = some .long) (hlk : meth.locks = false) (hQ : MQ below (g_Post D A Φ) args s kc ks A = Q) {v : Int64} (hd : decode cc pc = .ok (.lreturn, 1)) (hΦ : Φ (some (.long v)) ws) : g_G p l e R s m args below meth c D A nL kc ks Q ws lv pc [.long v] := by
  subst hQ
  exact fun H locs ls hP hD hS hl => W.lret X.1 X.2.1 hr (fun t ht hW => ⟨⟨_, _, rfl, hΦ, by rw [ht]; exact hP, hD⟩, hS.F ht⟩) hS.2.2 hd hlk
theorem g_vret (X : g_Cx p s m args c D A nL cc own cI cJ cZ) (hr : meth.sig.returnType = none) (hlk : meth.locks = false) (hQ : MQ below (g_Post D A Φ) args s kc ks A = Q) (hd : decode cc pc = .ok (.return_, 1)) (hΦ : Φ none ws) : g_G p l e R s m args below meth c D A nL kc ks Q ws lv pc [] := by
  subst hQ
  exact fun H locs ls hP hD hS hl => W.vret X.1 X.2.1 hr (fun t ht hW => ⟨⟨_, _, rfl, hΦ, by rw [ht]; exact hP, hD⟩, hS.F ht⟩) hS.2.2 hd hlk
theorem g_widen {kc2 ks2 : Nat} (h1 : kc ≤ kc2) (h2 : ks ≤ ks2) (kk : g_G p l e R s m args below meth c D A nL kc2 ks2 Q ws lv pc st) : g_G p l e R s m args below meth c D A nL kc ks Q ws lv pc st := fun H locs ls hP hD hS hl => W.widen h1 h2 (kk H locs ls hP hD hS hl)
/-- where the callee's cells lie among the caller's, and how its world comes back -/
def g_Emb (ws wc w w2 : va_W) : Prop := ∃ (isC isR is2 : List Nat) (wr : va_W), isC.map (fun i => ws[i]?) = wc.map some ∧ va_nd isC = true ∧ isR.map (fun i => ws[i]?) = wr.map some ∧ va_nd isR = true ∧ (∀ i ∈ isR, i ∉ isC) ∧ is2.map (fun i => (wr ++ w)[i]?) = w2.map some ∧ va_nd is2 = true
theorem va_P.map {D : va_G} {cl : List vw_C} {ws ws' : va_W} {H : Heap} (h : va_P D cl ws H) (is : List Nat) (hs : is.map (fun i => ws[i]?) = ws'.map some) : va_P D cl ws' H := by
  intro k q hk
  have h1 : (is.map (fun i => ws[i]?))[k]? = some (some q) := by rw [hs, List.getElem?_map, hk]; rfl
  rw [List.getElem?_map] at h1
  cases hi : is[k]? with
  | none => rw [hi] at h1; cases h1
  | some i => rw [hi] at h1; exact h i q (Option.some.inj h1)
theorem g_after {H : Heap} {locs : List Loc} {ls : Array Slot} {mc ms : Nat} {wc : va_W} {rest st0 : List Value} {a : Array Value} (X : g_Cx p s m args c D A nL cc own cI cJ cZ) (hr : va_Run p l e R s m args below meth c H locs kc ks mc ms (F0 m pc ls st0) rest (g_Post D (va_A wc H.size) Φ a) (va_A wc H.size)) (hP : va_P D vwCl ws H) (hD : va_D A ws) (hS : va_S A s.heap H locs) (hl : lv_has ls nL lv) (isC : List Nat) (hisC : isC.map (fun i => ws[i]?) = wc.map some)
    (kk : ∀ (v : Option Value) (w : va_W), Φ v w → ∃ w2 : va_W, g_Emb ws wc w w2 ∧ g_G p l e R s m args below meth c D A nL (kc + mc) (ks + ms) Q w2 lv (pc + 3) (v.toList ++ rest)) : W p l e R s m args below meth c H locs kc ks Q (F0 m pc ls st0) := by
  intro T hT Y
  have hF := va_free hD hS X.2.2.2.2.2.2 isC hisC
  obtain ⟨v, st₀, t, T', L, h0, X', hL, e1, e2, ⟨⟨v', w, hv, hp, hPw, hDw⟩, hz, hk⟩, stp⟩ := hr T hT Y
  cases hv
  rw [h0] at hz hk
  obtain ⟨w2, ⟨jC, jR, j2, wr, q1, q2, q3, q4, q5, q6, q7⟩, k2⟩ := kk v w hp
  obtain ⟨hPj, hDj⟩ := va_join (wr := wr) (w1 := w) (H1 := T'.heap) hP hD jC jR q1 q3 q4 q5 (fun q h1 h2 => by rw [e1]; exact hk q h1 h2) hF (by rw [e1]; exact hPw) hDw
  obtain ⟨t2, a1, b1⟩ := k2 T'.heap (locs ++ L) ls (hPj.map j2 q6) (hDj.sub j2 q7 q6)
    ⟨Nat.le_trans hS.1 (by rw [e1]; exact hz), fun q h1 h2 => by rw [e1, hk q (Nat.lt_of_lt_of_le h1 hS.1) (fun z => h2 (hF q z))]; exact hS.2.1 q h1 h2, fun q hq => by
      rcases List.mem_append.mp hq with h | h
      · exact hS.2.2 q h
      · exact hF _ (hL q h)⟩ hl T' rfl X'
  exact ⟨t2, stp t2 a1, b1⟩
theorem g_callV (X : g_Cx p s m args c D A nL cc own cI cJ cZ) {y : MethodName} {b : ByteArray} {mL index na : Nat} {ret : Option FieldType} {rm : Room} {mc ms : Nat} {As rest : List Value} {wc : va_W} {a0 ci : Nat} {C : String} {T : u_T} {N : Nat} {fs : List Value} (hC : g_Ct l D cI cJ cZ y b mL ret rm mc ms (.ref a0 :: As) wc Φ) (h1 : Cond.methodLink own index y ∈ wsL_law) (h2 : Cond.instanceMethod y ∈ wsL_law) (h3 : Cond.selects C y y ∈ wsL_law) (h4 : Cond.initialized C ∈ wsL_law) (h5 : Cond.code y b mL ret ∈ wsL_law)
    (hy : y.cls = C ∧ y.cls ≠ "java/lang/invoke/MethodHandle" ∧ y.cls ≠ "java/lang/invoke/VarHandle" ∧ (parseMethodDescriptor y.desc).map (fun d => d.parameters.length) = some na) (hrc : rm.cells = mc) (hrs : rm.slots = ms) (hna : As.length = na) (q0 : Nat) (he : wc[q0]? = some (a0, .inr (ci, fs))) (hc : vwCl[ci]? = some (C, T, N)) (hR : rm.frames + 1 ≤ R.frames ∧ 8 + (mL + 11) + rm.locals ≤ R.locals) (hf : kc + mc ≤ R.cells ∧ ks + ms ≤ R.slots) (hst : (rest.map fun v => v.category).sum ≤ 8) (hd : decode cc pc = .ok (.invokevirtual index, 3)) {stk : List Value} (hstk : stk = As.reverse ++ .ref a0 :: rest) (isC : List Nat) (hisC : isC.map (fun i => ws[i]?) = wc.map some) (hnC : va_nd isC = true) (kk : ∀ (v : Option Value) (w : va_W), Φ v w → ∃ w2 : va_W, g_Emb ws wc w w2 ∧ g_G p l e R s m args below meth c D A nL (kc + mc) (ks + ms) Q w2 lv (pc + 3) (v.toList ++ rest)) : g_G p l e R s m args below meth c D A nL kc ks Q ws lv pc stk := by
  intro H locs ls hP hD hS hl
  have hPc := hP.map isC hisC
  have hDc : va_D (fun _ => True) wc := (hD.sub isC hnC hisC).weaken (fun _ _ _ _ => trivial)
  have hm : c.maxLocals = nL := X.2.2.1
  refine g_after X (va_runV (As := As) (rest := rest) ⟨X.1, X.2.1, X.2.2.1, X.2.2.2.1, X.2.2.2.2.1⟩ (hC H.size) (cwV na X.2.2.2.2.1 (g_goodV h1 h2 h3 h4 h5) rfl hrc hrs hy hR) ⟨g_blind, va_recv X.2.2.2.2.2.1.1 hPc hc he, fun U hU hW => ⟨rfl, by rw [hU], by rw [hU]; exact hPc, g_Kn.warm hW X.2.2.2.2.2.1, hDc⟩⟩ rfl hna hl.1 hstk (lv_room hst) hd hf) hP hD hS hl isC hisC kk
theorem g_callS (X : g_Cx p s m args c D A nL cc own cI cJ cZ) {y : MethodName} {b : ByteArray} {mL index na : Nat} {ret : Option FieldType} {rm : Room} {mc ms : Nat} {As rest : List Value} {wc : va_W} (hC : g_Ct l D cI cJ cZ y b mL ret rm mc ms As wc Φ) (h1 : Cond.methodLink own index y ∈ wsL_law) (h2 : Cond.static y ∈ wsL_law) (h4 : Cond.initialized own ∈ wsL_law) (h5 : Cond.code y b mL ret ∈ wsL_law)
    (hy : y.cls = own ∧ y.cls ≠ "java/lang/invoke/MethodHandle" ∧ y.cls ≠ "java/lang/invoke/VarHandle" ∧ (parseMethodDescriptor y.desc).map (fun d => d.parameters.length) = some na) (hrc : rm.cells = mc) (hrs : rm.slots = ms) (hna : As.length = na) (hR : rm.frames + 1 ≤ R.frames ∧ 8 + (mL + 11) + rm.locals ≤ R.locals) (hf : kc + mc ≤ R.cells ∧ ks + ms ≤ R.slots) (hst : (rest.map fun v => v.category).sum ≤ 8) (hd : decode cc pc = .ok (.invokestatic index, 3)) {stk : List Value} (hstk : stk = As.reverse ++ rest) (isC : List Nat) (hisC : isC.map (fun i => ws[i]?) = wc.map some) (hnC : va_nd isC = true) (kk : ∀ (v : Option Value) (w : va_W), Φ v w → ∃ w2 : va_W, g_Emb ws wc w w2 ∧ g_G p l e R s m args below meth c D A nL (kc + mc) (ks + ms) Q w2 lv (pc + 3) (v.toList ++ rest)) : g_G p l e R s m args below meth c D A nL kc ks Q ws lv pc stk := by
  intro H locs ls hP hD hS hl
  have hPc := hP.map isC hisC
  have hDc : va_D (fun _ => True) wc := (hD.sub isC hnC hisC).weaken (fun _ _ _ _ => trivial)
  refine g_after X (va_runS (As := As) (rest := rest) ⟨X.1, X.2.1, X.2.2.1, X.2.2.2.1, X.2.2.2.2.1⟩ (hC H.size) (cwS na X.2.2.2.2.1 (g_goodS h1 h2 h4 h5) rfl hrc hrs hy hR) ⟨g_blind, fun U hU hW => ⟨rfl, by rw [hU], by rw [hU]; exact hPc, g_Kn.warm hW X.2.2.2.2.2.1, hDc⟩⟩ rfl hna hl.1 hstk (lv_room hst) hd hf) hP hD hS hl isC hisC kk
theorem g_callSN (X : g_Cx p s m args c D A nL cc own cI cJ cZ) {y : MethodName} {b : ByteArray} {mL index na : Nat} {ret : Option FieldType} {rm : Room} {mc ms : Nat} {As rest : List Value} {wc : va_W} (hC : g_Ct l D cI cJ cZ y b mL ret rm mc ms As wc Φ) (k : Nat) (hk : g_nest[k]? = some (own, index, y)) (h4 : Cond.initialized y.cls ∈ wsL_law) (h5 : Cond.code y b mL ret ∈ wsL_law) (hy : y.cls ≠ "java/lang/invoke/MethodHandle" ∧ y.cls ≠ "java/lang/invoke/VarHandle" ∧ (parseMethodDescriptor y.desc).map (fun d => d.parameters.length) = some na) (h2 : Cond.static y ∈ wsL_law) (hrc : rm.cells = mc) (hrs : rm.slots = ms) (hna : As.length = na) (hR : rm.frames + 1 ≤ R.frames ∧ 8 + (mL + 11) + rm.locals ≤ R.locals) (hf : kc + mc ≤ R.cells ∧ ks + ms ≤ R.slots) (hst : (rest.map fun v => v.category).sum ≤ 8) (hd : decode cc pc = .ok (.invokestatic index, 3)) {stk : List Value} (hstk : stk = As.reverse ++ rest) (isC : List Nat) (hisC : isC.map (fun i => ws[i]?) = wc.map some) (hnC : va_nd isC = true) (kk : ∀ (v : Option Value) (w : va_W), Φ v w → ∃ w2 : va_W, g_Emb ws wc w w2 ∧ g_G p l e R s m args below meth c D A nL (kc + mc) (ks + ms) Q w2 lv (pc + 3) (v.toList ++ rest)) : g_G p l e R s m args below meth c D A nL kc ks Q ws lv pc stk := by
  intro H locs ls hP hD hS hl
  have hPc := hP.map isC hisC
  have hDc : va_D (fun _ => True) wc := (hD.sub isC hnC hisC).weaken (fun _ _ _ _ => trivial)
  refine g_after X (va_runSN (As := As) (rest := rest) ⟨X.1, X.2.1, X.2.2.1, X.2.2.2.1, X.2.2.2.2.1⟩ (hC H.size) ⟨va_cnB na X.2.2.2.2.1 (g_goodZ h5) rfl hrc hrs (X.2.2.2.2.2.1.2 _ (List.mem_of_getElem? hk)) (X.2.2.2.2.1 _ h4) hy hR, X.2.2.2.2.1 _ h2, trivial⟩ ⟨g_blind, fun U hU hW => ⟨rfl, by rw [hU], by rw [hU]; exact hPc, g_Kn.warm hW X.2.2.2.2.2.1, hDc⟩⟩ rfl hna hl.1 hstk (lv_room hst) hd hf) hP hD hS hl isC hisC kk
theorem g_callI (X : g_Cx p s m args c D A nL cc own cI cJ cZ) {a0 : Nat} {y : MethodName} {b : ByteArray} {mL index na : Nat} {ret : Option FieldType} {rm : Room} {mc ms : Nat} {As rest : List Value} {wc : va_W} (hC : g_Ct l D cI cJ cZ y b mL none rm mc ms (.ref a0 :: As) wc Φ) (h1 : Cond.methodLink own index y ∈ wsL_law) (h2 : Cond.instanceMethod y ∈ wsL_law) (h4 : Cond.initialized y.cls ∈ wsL_law) (h5 : Cond.code y b mL none ∈ wsL_law) (hy1 : y.name = "<init>")
    (hy : y.cls ≠ "java/lang/invoke/MethodHandle" ∧ y.cls ≠ "java/lang/invoke/VarHandle" ∧ (parseMethodDescriptor y.desc).map (fun d => d.parameters.length) = some na) (hrc : rm.cells = mc) (hrs : rm.slots = ms) (hna : As.length = na) (hR : rm.frames + 1 ≤ R.frames ∧ 8 + (mL + 11) + rm.locals ≤ R.locals) (hf : kc + mc ≤ R.cells ∧ ks + ms ≤ R.slots) (hst : (rest.map fun v => v.category).sum ≤ 8) (hd : decode cc pc = .ok (.invokespecial index, 3)) {stk : List Value} (hstk : stk = As.reverse ++ .ref a0 :: rest) (isC : List Nat) (hisC : isC.map (fun i => ws[i]?) = wc.map some) (hnC : va_nd isC = true) (kk : ∀ (v : Option Value) (w : va_W), Φ v w → ∃ w2 : va_W, g_Emb ws wc w w2 ∧ g_G p l e R s m args below meth c D A nL (kc + mc) (ks + ms) Q w2 lv (pc + 3) (v.toList ++ rest)) : g_G p l e R s m args below meth c D A nL kc ks Q ws lv pc stk := by
  intro H locs ls hP hD hS hl
  have hPc := hP.map isC hisC
  have hDc : va_D (fun _ => True) wc := (hD.sub isC hnC hisC).weaken (fun _ _ _ _ => trivial)
  refine g_after X (va_runI (As := As) (rest := rest) ⟨X.1, X.2.1, X.2.2.1, X.2.2.2.1, X.2.2.2.2.1⟩ (hC H.size) (cwI na X.2.2.2.2.1 (g_goodZ h5) rfl hrc hrs (X.2.2.2.2.1 _ h4) (X.2.2.2.2.1 _ h1) (X.2.2.2.2.1 _ h2) hy1 hy hR) ⟨g_blind, fun U hU hW => ⟨rfl, by rw [hU], by rw [hU]; exact hPc, g_Kn.warm hW X.2.2.2.2.2.1, hDc⟩⟩ rfl hna hl.1 hstk (lv_room hst) hd hf) hP hD hS hl isC hisC kk
theorem g_callIN (X : g_Cx p s m args c D A nL cc own cI cJ cZ) {a0 : Nat} {y : MethodName} {b : ByteArray} {mL index na : Nat} {ret : Option FieldType} {rm : Room} {mc ms : Nat} {As rest : List Value} {wc : va_W} (hC : g_Ct l D cI cJ cZ y b mL none rm mc ms (.ref a0 :: As) wc Φ) (k : Nat) (hk : g_nest[k]? = some (own, index, y)) (h4 : Cond.initialized y.cls ∈ wsL_law) (h5 : Cond.code y b mL none ∈ wsL_law) (hy : y.cls ≠ "java/lang/invoke/MethodHandle" ∧ y.cls ≠ "java/lang/invoke/VarHandle" ∧ (parseMethodDescriptor y.desc).map (fun d => d.parameters.length) = some na) (h2 : Cond.instanceMethod y ∈ wsL_law) (hy1 : y.name = "<init>") (hrc : rm.cells = mc) (hrs : rm.slots = ms) (hna : As.length = na) (hR : rm.frames + 1 ≤ R.frames ∧ 8 + (mL + 11) + rm.locals ≤ R.locals) (hf : kc + mc ≤ R.cells ∧ ks + ms ≤ R.slots) (hst : (rest.map fun v => v.category).sum ≤ 8) (hd : decode cc pc = .ok (.invokespecial index, 3)) {stk : List Value} (hstk : stk = As.reverse ++ .ref a0 :: rest) (isC : List Nat) (hisC : isC.map (fun i => ws[i]?) = wc.map some) (hnC : va_nd isC = true) (kk : ∀ (v : Option Value) (w : va_W), Φ v w → ∃ w2 : va_W, g_Emb ws wc w w2 ∧ g_G p l e R s m args below meth c D A nL (kc + mc) (ks + ms) Q w2 lv (pc + 3) (v.toList ++ rest)) : g_G p l e R s m args below meth c D A nL kc ks Q ws lv pc stk := by
  intro H locs ls hP hD hS hl
  have hPc := hP.map isC hisC
  have hDc : va_D (fun _ => True) wc := (hD.sub isC hnC hisC).weaken (fun _ _ _ _ => trivial)
  refine g_after X (va_runIN (As := As) (rest := rest) ⟨X.1, X.2.1, X.2.2.1, X.2.2.2.1, X.2.2.2.2.1⟩ (hC H.size) ⟨va_cnB na X.2.2.2.2.1 (g_goodZ h5) rfl hrc hrs (X.2.2.2.2.2.1.2 _ (List.mem_of_getElem? hk)) (X.2.2.2.2.1 _ h4) hy hR, hy1, X.2.2.2.2.1 _ h2⟩ ⟨g_blind, fun U hU hW => ⟨rfl, by rw [hU], by rw [hU]; exact hPc, g_Kn.warm hW X.2.2.2.2.2.1, hDc⟩⟩ rfl hna hl.1 hstk (lv_room hst) hd hf) hP hD hS hl isC hisC kk
theorem g_kk1 {wc w w2 : va_W} {val : Option Value} {mc ms : Nat} {rest : List Value} (E : g_Emb ws wc w w2) (kk : g_G p l e R s m args below meth c D A nL (kc + mc) (ks + ms) Q w2 lv (pc + 3) (val.toList ++ rest)) : ∀ (v : Option Value) (w' : va_W), g_eq val w v w' → ∃ w2 : va_W, g_Emb ws wc w' w2 ∧ g_G p l e R s m args below meth c D A nL (kc + mc) (ks + ms) Q w2 lv (pc + 3) (v.toList ++ rest) := by
  rintro v w' ⟨rfl, rfl⟩
  exact ⟨w2, E, kk⟩
theorem g_mmin (X : g_Cx p s m args c D A nL cc own cI cJ cZ) {index : Nat} (hstat : Cond.static Lib.Math.min.name ∈ wsL_law) (hlink : Cond.methodLink own index Lib.Math.min.name ∈ wsL_law) (hini : Cond.initialized "java/lang/Math" ∈ wsL_law) (hcode : Cond.code Lib.Math.min.name Lib.Math.min.code 2 (some .int) ∈ wsL_law) (hfr : 1 ≤ R.frames) (hlo : (st.map fun v => v.category).sum + 13 ≤ R.locals) (hc : kc ≤ R.cells) (hs : ks ≤ R.slots) {x y v : Int32} (hv : (if y < x then y else x) = v) (hd : decode cc pc = .ok (.invokestatic index, 3)) (kk : g_G p l e R s m args below meth c D A nL kc ks Q ws lv (pc + 3) (.int v :: st)) : g_G p l e R s m args below meth c D A nL kc ks Q ws lv pc (.int y :: .int x :: st) := by
  subst hv
  exact fun H locs ls hP hD hS hl => va_mmin X.1 X.2.1 (X.2.2.1.trans hl.1.symm) X.2.2.2.1 (X.2.2.2.2.1 _ hlink) (X.2.2.2.2.1 _ hstat) (X.2.2.2.2.1 _ hini) (X.2.2.2.2.1 _ hcode) hfr hlo hc hs hd (kk H locs ls hP hD hS hl)
theorem g_mmin_long (X : g_Cx p s m args c D A nL cc own cI cJ cZ) {index : Nat} (hstat : Cond.static Lib.MathLoose.min_long.x ∈ wsL_law) (hlink : Cond.methodLink own index Lib.MathLoose.min_long.x ∈ wsL_law) (hini : Cond.initialized "java/lang/Math" ∈ wsL_law) (hcode : Cond.code Lib.MathLoose.min_long.x Lib.MathLoose.min_long.code 4 (some .long) ∈ wsL_law) (hfr : 1 ≤ R.frames) (hlo : (st.map fun v => v.category).sum + 15 ≤ R.locals) (hc : kc ≤ R.cells) (hs : ks ≤ R.slots) {x y v : Int64} (hv : (if y < x then y else x) = v) (hd : decode cc pc = .ok (.invokestatic index, 3)) (kk : g_G p l e R s m args below meth c D A nL kc ks Q ws lv (pc + 3) (.long v :: st)) : g_G p l e R s m args below meth c D A nL kc ks Q ws lv pc (.long y :: .long x :: st) := by
  subst hv
  exact fun H locs ls hP hD hS hl => va_mmin_long X.1 X.2.1 (X.2.2.1.trans hl.1.symm) X.2.2.2.1 (X.2.2.2.2.1 _ hlink) (X.2.2.2.2.1 _ hstat) (X.2.2.2.2.1 _ hini) (X.2.2.2.2.1 _ hcode) hfr hlo hc hs hd (kk H locs ls hP hD hS hl)
theorem g_mmax_long (X : g_Cx p s m args c D A nL cc own cI cJ cZ) {index : Nat} (hstat : Cond.static Lib.MathLoose.max_long.x ∈ wsL_law) (hlink : Cond.methodLink own index Lib.MathLoose.max_long.x ∈ wsL_law) (hini : Cond.initialized "java/lang/Math" ∈ wsL_law) (hcode : Cond.code Lib.MathLoose.max_long.x Lib.MathLoose.max_long.code 4 (some .long) ∈ wsL_law) (hfr : 1 ≤ R.frames) (hlo : (st.map fun v => v.category).sum + 15 ≤ R.locals) (hc : kc ≤ R.cells) (hs : ks ≤ R.slots) {x y v : Int64} (hv : (if y < x then x else y) = v) (hd : decode cc pc = .ok (.invokestatic index, 3)) (kk : g_G p l e R s m args below meth c D A nL kc ks Q ws lv (pc + 3) (.long v :: st)) : g_G p l e R s m args below meth c D A nL kc ks Q ws lv pc (.long y :: .long x :: st) := by
  subst hv
  exact fun H locs ls hP hD hS hl => va_mmax_long X.1 X.2.1 (X.2.2.1.trans hl.1.symm) X.2.2.2.1 (X.2.2.2.2.1 _ hlink) (X.2.2.2.2.1 _ hstat) (X.2.2.2.2.1 _ hini) (X.2.2.2.2.1 _ hcode) hfr hlo hc hs hd (kk H locs ls hP hD hS hl)
theorem g_icN_lt (X : g_Cx p s m args c D A nL cc own cI cJ cZ) {a b : Nat} (ha : a < 2 ^ 31) (hb : b < 2 ^ 31) {off : Int} {tgt : Nat} (hd : decode cc pc = .ok (.if_icmp .lt off, 3)) (ht : (pc : Int) + off = (tgt : Int)) (kt : a < b → g_G p l e R s m args below meth c D A nL kc ks Q ws lv tgt st) (kf : ¬ (a < b) → g_G p l e R s m args below meth c D A nL kc ks Q ws lv (pc + 3) st) : g_G p l e R s m args below meth c D A nL kc ks Q ws lv pc (.int (nI b) :: .int (nI a) :: st) := g_icmp_lt X hd ht (fun h => kt ((nI_ltI ha hb).mp h)) (fun h => kf (fun h2 => h ((nI_ltI ha hb).mpr h2)))
theorem g_icN_ge (X : g_Cx p s m args c D A nL cc own cI cJ cZ) {a b : Nat} (ha : a < 2 ^ 31) (hb : b < 2 ^ 31) {off : Int} {tgt : Nat} (hd : decode cc pc = .ok (.if_icmp .ge off, 3)) (ht : (pc : Int) + off = (tgt : Int)) (kt : b ≤ a → g_G p l e R s m args below meth c D A nL kc ks Q ws lv tgt st) (kf : ¬ (b ≤ a) → g_G p l e R s m args below meth c D A nL kc ks Q ws lv (pc + 3) st) : g_G p l e R s m args below meth c D A nL kc ks Q ws lv pc (.int (nI b) :: .int (nI a) :: st) := g_icmp_ge X hd ht (fun h => kt ((nI_leI hb ha).mp h)) (fun h => kf (fun h2 => h ((nI_leI hb ha).mpr h2)))
theorem g_icN_gt (X : g_Cx p s m args c D A nL cc own cI cJ cZ) {a b : Nat} (ha : a < 2 ^ 31) (hb : b < 2 ^ 31) {off : Int} {tgt : Nat} (hd : decode cc pc = .ok (.if_icmp .gt off, 3)) (ht : (pc : Int) + off = (tgt : Int)) (kt : b < a → g_G p l e R s m args below meth c D A nL kc ks Q ws lv tgt st) (kf : ¬ (b < a) → g_G p l e R s m args below meth c D A nL kc ks Q ws lv (pc + 3) st) : g_G p l e R s m args below meth c D A nL kc ks Q ws lv pc (.int (nI b) :: .int (nI a) :: st) := g_icmp_gt X hd ht (fun h => kt ((nI_ltI hb ha).mp h)) (fun h => kf (fun h2 => h ((nI_ltI hb ha).mpr h2)))
theorem g_icN_le (X : g_Cx p s m args c D A nL cc own cI cJ cZ) {a b : Nat} (ha : a < 2 ^ 31) (hb : b < 2 ^ 31) {off : Int} {tgt : Nat} (hd : decode cc pc = .ok (.if_icmp .le off, 3)) (ht : (pc : Int) + off = (tgt : Int)) (kt : a ≤ b → g_G p l e R s m args below meth c D A nL kc ks Q ws lv tgt st) (kf : ¬ (a ≤ b) → g_G p l e R s m args below meth c D A nL kc ks Q ws lv (pc + 3) st) : g_G p l e R s m args below meth c D A nL kc ks Q ws lv pc (.int (nI b) :: .int (nI a) :: st) := g_icmp_le X hd ht (fun h => kt ((nI_leI ha hb).mp h)) (fun h => kf (fun h2 => h ((nI_leI ha hb).mpr h2)))
theorem g_icN_eq (X : g_Cx p s m args c D A nL cc own cI cJ cZ) {a b : Nat} (ha : a < 2 ^ 31) (hb : b < 2 ^ 31) {off : Int} {tgt : Nat} (hd : decode cc pc = .ok (.if_icmp .eq off, 3)) (ht : (pc : Int) + off = (tgt : Int)) (kt : a = b → g_G p l e R s m args below meth c D A nL kc ks Q ws lv tgt st) (kf : ¬ (a = b) → g_G p l e R s m args below meth c D A nL kc ks Q ws lv (pc + 3) st) : g_G p l e R s m args below meth c D A nL kc ks Q ws lv pc (.int (nI b) :: .int (nI a) :: st) := g_icmp_eq X hd ht (fun h => kt ((nI_eq ha hb).mp h)) (fun h => kf (fun h2 => h ((nI_eq ha hb).mpr h2)))
theorem g_icN_ne (X : g_Cx p s m args c D A nL cc own cI cJ cZ) {a b : Nat} (ha : a < 2 ^ 31) (hb : b < 2 ^ 31) {off : Int} {tgt : Nat} (hd : decode cc pc = .ok (.if_icmp .ne off, 3)) (ht : (pc : Int) + off = (tgt : Int)) (kt : ¬ a = b → g_G p l e R s m args below meth c D A nL kc ks Q ws lv tgt st) (kf : a = b → g_G p l e R s m args below meth c D A nL kc ks Q ws lv (pc + 3) st) : g_G p l e R s m args below meth c D A nL kc ks Q ws lv pc (.int (nI b) :: .int (nI a) :: st) := g_icmp_ne X hd ht (fun h => kt (fun h2 => h ((nI_eq ha hb).mpr h2))) (fun h => kf (by first | exact (nI_eq ha hb).mp h | exact (nI_eq ha hb).mp (Decidable.not_not.mp h)))
def bI (b : Bool) : Int32 := if b = true then 1 else 0
theorem bI_eq (b : Bool) : bI b = 0 ↔ b = false := by cases b <;> decide
theorem bI_nar (b : Bool) : narrow .boolean (.int (bI b)) = .int (bI b) := by cases b <;> decide
theorem bI_vp (b : Bool) : vp_nar .boolean (bI b) = bI b := by cases b <;> decide
theorem bI_fit (b : Bool) : fits .boolean (.int (bI b)) = true := by cases b <;> decide
theorem g_bI_eq (X : g_Cx p s m args c D A nL cc own cI cJ cZ) {b : Bool} {off : Int} {tgt : Nat} (hd : decode cc pc = .ok (.ifCond .eq off, 3)) (ht : (pc : Int) + off = (tgt : Int)) (kt : b = false → g_G p l e R s m args below meth c D A nL kc ks Q ws lv tgt st) (kf : b = true → g_G p l e R s m args below meth c D A nL kc ks Q ws lv (pc + 3) st) : g_G p l e R s m args below meth c D A nL kc ks Q ws lv pc (.int (bI b) :: st) := g_if_eq X hd ht (fun h => kt ((bI_eq b).mp h)) (fun h => kf (by cases b with | true => rfl | false => exact absurd rfl h))
theorem g_bI_ne (X : g_Cx p s m args c D A nL cc own cI cJ cZ) {b : Bool} {off : Int} {tgt : Nat} (hd : decode cc pc = .ok (.ifCond .ne off, 3)) (ht : (pc : Int) + off = (tgt : Int)) (kt : b = true → g_G p l e R s m args below meth c D A nL kc ks Q ws lv tgt st) (kf : b = false → g_G p l e R s m args below meth c D A nL kc ks Q ws lv (pc + 3) st) : g_G p l e R s m args below meth c D A nL kc ks Q ws lv pc (.int (bI b) :: st) := g_if_ne X hd ht (fun h => kt (by cases b with | true => rfl | false => exact absurd rfl h)) (fun h => kf (by cases b with | false => rfl | true => exact absurd h (by decide)))
end GO1
end
section
theorem zz_end : True := trivial
end
