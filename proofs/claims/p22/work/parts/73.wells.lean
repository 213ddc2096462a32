theorem dM2_4 {S : St} {b w : Nat} {x hot : Int64} : dM2 S b w x hot 4 = S 4 := by
  unfold dM2 dM1 fndM
  rw [u2_c _ _ _ (by decide), u2_c _ _ _ (by decide), u2_c _ _ _ (by decide), u2_c _ _ _ (by decide), u2_c _ _ _ (by decide), u2_c _ _ _ (by decide), giveS_c (by decide) (by decide) (by decide)]
theorem d4_b {S : St} {b w : Nat} {x hot : Int64} (h : S 4 w = lN (scN S w) ∧ scN S w ≤ 100) : 0 ≤ (dM2 S b w x hot 4 w).toInt ∧ (dM2 S b w x hot 4 w).toInt ≤ 100 := by
  rw [dM2_4, h.1, lN_toInt (by omega)]
  omega

theorem hV_L_wells : yL_wells.cls = RL ∧ yL_wells.cls ≠ "java/lang/invoke/MethodHandle" ∧ yL_wells.cls ≠ "java/lang/invoke/VarHandle" ∧ (parseMethodDescriptor yL_wells.desc).map (fun d => d.parameters.length) = some 11 := by decide +kernel
abbrev rm_L_wells : Room := { frames := 2, cells := 0, slots := 0, locals := 51 }
set_option maxRecDepth 100000 in
set_option maxHeartbeats 4000000 in
theorem n_L_wells_955 (l : Launch) (D : va_G) (cI cJ cZ : ClassId) (y : Nat → Nat) (C : Cf) (N : Nat → Nat) (S : St) (Qk : Nat → Int64) (k : Int) (hC : Cok C N) (h3 : R01 C N) (hW : Wk k S) (h0 : 0 ≤ k) (hk : k + 200000000 ≤ 1099511627776) (hE : Wel N S) (hn0 : N 0 ≤ 8) (hn1 : N 1 ≤ 3) (hn2 : N 2 ≤ 3) {p : Program} {e : Env} {s : State} {m : MethodId} {args : Array Value} {below : List Frame} {meth : Method} {c : Code} {A : Nat → Prop} (X : g_Cx p s m args c D A 29 cL_wells RL cI cJ cZ) (hr : meth.sig.returnType = none) (hlk : meth.locks = false) {Q : State → Prop} (hQ : MQ below (g_Post D A (g_eq none (wL y cI cJ C N (wlS C N S) Qk))) args s 0 0 A = Q) (S4 : St) (eS4 : S4 = itr (shW C N) S (N 0)) (S10 : St) (eS10 : S10 = itr (dwS C N) S4 (N 0)) (a11 : Int64) (ea11 : a11 = brn C N S4 (N 0)) (a12 : Int64) (ea12 : a12 = brh C N S4 (N 0)) (a13 : Int64) (ea13 : a13 = wgt C S4 (N 0)) (v17 : Int64) (ev17 : v17 = (if ¬ a11 = (0 : Int64) then a12 / a11 else (0 : Int64))) (S22 : St) (eS22 : S22 = u2 S10 12 5 (selP C a11 a12 (S10 12 5) (N 1)).2) (a23 : Int64) (ea23 : a23 = (selP C a11 a12 (S10 12 5) (N 1)).1) (S26 : St) (eS26 : S26 = u2 S22 12 2 ((S22 12 2) + a11)) (S29 : St) (eS29 : S29 = gdN C a11 a13 S26 (N 0) (N 0 - 0)) : g_G p l e rm_L_wells s m args below meth c D A 29 0 0 Q (wL y cI cJ C N S29 Qk) [(0, .ref (y 0)), (1, .ref (y 1)), (3, .ref (y 3)), (4, .ref (y 5)), (9, .ref (y 10)), (10, .ref (y 12)), (11, .long a11), (15, .long a13), (17, .long a23), (19, .int (dI 0))] 955 [] := by
  have hN0 := hC.n0
  have hN1 := hC.n1
  have hN2 := hC.n2
  have hN0 := hC.n0
  have hN1 := hC.n1
  have hN2 := hC.n2
  obtain ⟨hc36, hc3, hc5, hcw⟩ := wl_C (N := N) eS4 eS10 eS22
  have hb2 : 0 ≤ (a11).toInt ∧ (a11).toInt ≤ 10000 := by have := brn_ok hC (sh_ok hW hE (N 0)).1 (by omega) (sh_ok hW hE (N 0)).2 (N 0) (Nat.le_refl _); rw [ea11, eS4]; omega
  replace eS29 : S29 = u2 (itr (gb1 C a11 a13) S22 (N 0)) 12 2 (itr (gb1 C a11 a13) S22 (N 0) 12 2 + lft C a11 a13 S22 (N 0)) := by rw [eS29, Nat.sub_zero, eS26]; exact gd_eq (fun j hj hr => hc5 j hj (ret_nz hr))
  have hV5 := wl_V (N := N) hC hb2.1 hb2.2 hc5 eS29
  refine g_iconst X (v := nI 0) dL_wells_955 (by decide +kernel) ?_
  refine g_istore X [(19, .int (nI 0)), (0, .ref (y 0)), (1, .ref (y 1)), (3, .ref (y 3)), (4, .ref (y 5)), (9, .ref (y 10)), (10, .ref (y 12)), (11, .long a11), (15, .long a13), (17, .long a23)] dL_wells_956 (Nat.le_of_ble_eq_true rfl) rfl ?_
  have L31 : ∀ (n33 i32 : Nat) (S34 : St), i32 + n33 = (N 0) → S34 = itr (gb2 C a23) S29 i32 → g_G p l e rm_L_wells s m args below meth c D A 29 0 0 Q (wL y cI cJ C N S34 Qk) [(0, .ref (y 0)), (1, .ref (y 1)), (3, .ref (y 3)), (4, .ref (y 5)), (10, .ref (y 12)), (17, .long a23), (19, .int (nI i32))] 958 [] := by
    intro n33
    induction n33 with
    | zero =>
      intro i32 S34 hi35 eS34
      obtain rfl : i32 = (N 0) := by omega
      refine g_iload X 6 dL_wells_958 rfl ?_
      refine g_aload X 4 dL_wells_960 rfl ?_
      refine g_iconst X (v := nI 1) dL_wells_962 (by decide +kernel) ?_
      refine g_iald X 12 rfl (1) rfl (by omega) (Nat.le_of_ble_eq_true rfl) (v := nI (N 0)) rfl dL_wells_963 ?_
      refine g_icN_ge X (a := (N 0)) (b := N 0) (tgt := 1062) (by omega) (by omega) dL_wells_964 (by decide) (fun h36 => ?_) (fun h36 => absurd h36 (by omega))
      refine g_vret X hr hlk hQ dL_wells_1062 ?_
      show g_eq _ _ _ _
      refine ⟨rfl, congrArg (fun z => wL y cI cJ C N z Qk) ?_⟩
      exact wl_end eS4 eS10 ea11 ea12 ea13 eS22 ea23 eS29 eS34
    | succ n33 ihL31 =>
      intro i32 S34 hi35 eS34
      have hlti32 : i32 < (N 0) := by omega
      have hpl := (hC.pl hlti32).2
      have h5v := hV5 i32 hlti32
      have hTc : S34 5 = S29 5 ∧ S34 6 = S29 6 := by rw [eS34]; exact ⟨itr_c (fun _ _ => gb2_c (by decide) (by decide) (by decide)) _ _, itr_c (fun _ _ => gb2_c (by decide) (by decide) (by decide)) _ _⟩
      refine g_iload X 6 dL_wells_958 rfl ?_
      refine g_aload X 4 dL_wells_960 rfl ?_
      refine g_iconst X (v := nI 1) dL_wells_962 (by decide +kernel) ?_
      refine g_iald X 12 rfl (1) rfl (by omega) (Nat.le_of_ble_eq_true rfl) (v := nI (N 0)) rfl dL_wells_963 ?_
      refine g_icN_ge X (a := i32) (b := N 0) (tgt := 1062) (by omega) (by omega) dL_wells_964 (by decide) (fun h37 => absurd h37 (by omega)) (fun h37 => ?_)
      refine g_aload X 3 dL_wells_967 rfl ?_
      refine g_bipush X (v := nI 7) dL_wells_969 (by decide +kernel) ?_
      refine g_iload X 6 dL_wells_971 rfl ?_
      refine g_imul X (v := nI (7 * i32)) dL_wells_973 (pk_mul _ _) ?_
      refine g_iconst X (v := nI 1) dL_wells_974 (by decide +kernel) ?_
      refine g_iadd X (v := nI (7 * i32 + 1)) dL_wells_975 ((nI_add _ _).trans (congrArg nI (by omega))) ?_
      refine g_iald X 5 rfl (7 * i32 + 1) rfl (by omega) (Nat.le_of_ble_eq_true rfl) (v := C 3 i32) (eE_1 C N S34 i32) dL_wells_976 ?_
      refine g_iconst X (v := nI 1) dL_wells_977 (by decide +kernel) ?_
      refine g_icmp_ne X (tgt := 1056) dL_wells_978 (by decide) (fun h38 => ?_) (fun h38 => ?_)
      · --
        refine g_iinc X [(19, .int (nI (i32 + 1))), (0, .ref (y 0)), (1, .ref (y 1)), (3, .ref (y 3)), (4, .ref (y 5)), (10, .ref (y 12)), (17, .long a23)] (q := 6) (v := nI (i32 + 1)) dL_wells_1056 rfl ((congrArg (fun z => nI (i32) + z) (show Int32.ofInt 1 = nI 1 by decide +kernel)).trans ((nI_add _ _).trans (congrArg nI (by omega)))) (Nat.le_of_ble_eq_true rfl) rfl ?_
        refine g_goto X (tgt := 958) dL_wells_1059 (by decide) ?_
        refine g_lv _ [1, 2, 3, 4, 5, 6, 0] rfl ?_
        exact ihL31 (i32 + 1) _ (by omega) (by show _ = gb2 C _ i32 (itr _ _ i32); rw [← eS34]; unfold gb2; rw [if_pos (ret_n h38 (h3 i32 hlti32))])
      · --
        have hr5 : (S34 5 i32).toInt32.toInt64 = S34 5 i32 := by rw [hTc.1]; have hq := h5v.1 (by assumption); exact i32r hq.1 (by omega)
        refine g_aload_n X 0 dL_wells_981 rfl rfl ?_
        refine g_aload X 3 dL_wells_982 rfl ?_
        refine g_bipush X (v := nI 7) dL_wells_984 (by decide +kernel) ?_
        refine g_iload X 6 dL_wells_986 rfl ?_
        refine g_imul X (v := nI (7 * i32)) dL_wells_988 (pk_mul _ _) ?_
        refine g_iald X 5 rfl (7 * i32) rfl (by omega) (Nat.le_of_ble_eq_true rfl) (v := nI (plN C i32)) ((eE_0 C N S34 i32).trans (hC.pl (by omega)).1) dL_wells_989 ?_
        refine g_dup2_11 X dL_wells_990 rfl rfl ?_
        refine g_lald X 0 rfl (plN C i32) rfl (by omega) (Nat.le_of_ble_eq_true rfl) (v := S34 0 (plN C i32)) rfl dL_wells_991 ?_
        refine g_aload X 3 dL_wells_992 rfl ?_
        refine g_bipush X (v := nI 7) dL_wells_994 (by decide +kernel) ?_
        refine g_iload X 6 dL_wells_996 rfl ?_
        refine g_imul X (v := nI (7 * i32)) dL_wells_998 (pk_mul _ _) ?_
        refine g_iconst X (v := nI 4) dL_wells_999 (by decide +kernel) ?_
        refine g_iadd X (v := nI (7 * i32 + 4)) dL_wells_1000 ((nI_add _ _).trans (congrArg nI (by omega))) ?_
        refine g_iald X 5 rfl (7 * i32 + 4) rfl (by omega) (Nat.le_of_ble_eq_true rfl) (v := (S34 5 i32).toInt32) (eE_4 C N S34 i32) dL_wells_1001 ?_
        refine g_i2l X (v := S34 5 i32) dL_wells_1002 (by exact hr5) ?_
        refine g_ladd X (v := (S34 0 (plN C i32)) + (S34 5 i32)) dL_wells_1003 rfl ?_
        obtain ⟨S39, eS39⟩ : ∃ z : St, z = u2 S34 0 (plN C i32) ((S34 0 (plN C i32)) + (S34 5 i32)) := ⟨_, rfl⟩
        refine g_last X (ws' := wL y cI cJ C N S39 Qk) 0 rfl (plN C i32) rfl (by omega) (Nat.le_of_ble_eq_true rfl) dL_wells_1004 (by rw [eS39]; first | done | (rfl)) ?_
        refine g_aload_n X 1 dL_wells_1005 rfl rfl ?_
        refine g_aload X 3 dL_wells_1006 rfl ?_
        refine g_bipush X (v := nI 7) dL_wells_1008 (by decide +kernel) ?_
        refine g_iload X 6 dL_wells_1010 rfl ?_
        refine g_imul X (v := nI (7 * i32)) dL_wells_1012 (pk_mul _ _) ?_
        refine g_iald X 5 rfl (7 * i32) rfl (by omega) (Nat.le_of_ble_eq_true rfl) (v := nI (plN C i32)) ((eE_0 C N S39 i32).trans (hC.pl (by omega)).1) dL_wells_1013 ?_
        refine g_dup2_11 X dL_wells_1014 rfl rfl ?_
        refine g_lald X 1 rfl (plN C i32) rfl (by omega) (Nat.le_of_ble_eq_true rfl) (v := S39 1 (plN C i32)) rfl dL_wells_1015 ?_
        refine g_aload X 3 dL_wells_1016 rfl ?_
        refine g_bipush X (v := nI 7) dL_wells_1018 (by decide +kernel) ?_
        refine g_iload X 6 dL_wells_1020 rfl ?_
        refine g_imul X (v := nI (7 * i32)) dL_wells_1022 (pk_mul _ _) ?_
        refine g_iconst X (v := nI 4) dL_wells_1023 (by decide +kernel) ?_
        refine g_iadd X (v := nI (7 * i32 + 4)) dL_wells_1024 ((nI_add _ _).trans (congrArg nI (by omega))) ?_
        refine g_iald X 5 rfl (7 * i32 + 4) rfl (by omega) (Nat.le_of_ble_eq_true rfl) (v := (S39 5 i32).toInt32) (eE_4 C N S39 i32) dL_wells_1025 ?_
        refine g_i2l X (v := S34 5 i32) dL_wells_1026 (by (try rw [eS39]); exact hr5) ?_
        refine g_lload X 5 dL_wells_1027 rfl ?_
        refine g_lmul X (v := (S34 5 i32) * a23) dL_wells_1029 rfl ?_
        refine g_ladd X (v := (S39 1 (plN C i32)) + ((S34 5 i32) * a23)) dL_wells_1030 rfl ?_
        obtain ⟨S40, eS40⟩ : ∃ z : St, z = u2 S39 1 (plN C i32) ((S39 1 (plN C i32)) + ((S34 5 i32) * a23)) := ⟨_, rfl⟩
        refine g_last X (ws' := wL y cI cJ C N S40 Qk) 1 rfl (plN C i32) rfl (by omega) (Nat.le_of_ble_eq_true rfl) dL_wells_1031 (by rw [eS40]; first | done | (rfl)) ?_
        refine g_aload_n X 2 dL_wells_1032 rfl rfl ?_
        refine g_aload X 3 dL_wells_1033 rfl ?_
        refine g_bipush X (v := nI 7) dL_wells_1035 (by decide +kernel) ?_
        refine g_iload X 6 dL_wells_1037 rfl ?_
        refine g_imul X (v := nI (7 * i32)) dL_wells_1039 (pk_mul _ _) ?_
        refine g_iald X 5 rfl (7 * i32) rfl (by omega) (Nat.le_of_ble_eq_true rfl) (v := nI (plN C i32)) ((eE_0 C N S40 i32).trans (hC.pl (by omega)).1) dL_wells_1040 ?_
        refine g_dup2_11 X dL_wells_1041 rfl rfl ?_
        refine g_lald X 3 rfl (plN C i32) rfl (by omega) (Nat.le_of_ble_eq_true rfl) (v := S40 3 (plN C i32)) rfl dL_wells_1042 ?_
        refine g_aload X 3 dL_wells_1043 rfl ?_
        refine g_bipush X (v := nI 7) dL_wells_1045 (by decide +kernel) ?_
        refine g_iload X 6 dL_wells_1047 rfl ?_
        refine g_imul X (v := nI (7 * i32)) dL_wells_1049 (pk_mul _ _) ?_
        refine g_iconst X (v := nI 4) dL_wells_1050 (by decide +kernel) ?_
        refine g_iadd X (v := nI (7 * i32 + 4)) dL_wells_1051 ((nI_add _ _).trans (congrArg nI (by omega))) ?_
        refine g_iald X 5 rfl (7 * i32 + 4) rfl (by omega) (Nat.le_of_ble_eq_true rfl) (v := (S40 5 i32).toInt32) (eE_4 C N S40 i32) dL_wells_1052 ?_
        refine g_i2l X (v := S34 5 i32) dL_wells_1053 (by (try rw [eS40]); (try rw [eS39]); exact hr5) ?_
        refine g_ladd X (v := (S40 3 (plN C i32)) + (S34 5 i32)) dL_wells_1054 rfl ?_
        obtain ⟨S41, eS41⟩ : ∃ z : St, z = u2 S40 3 (plN C i32) ((S40 3 (plN C i32)) + (S34 5 i32)) := ⟨_, rfl⟩
        refine g_last X (ws' := wL y cI cJ C N S41 Qk) 3 rfl (plN C i32) rfl (by omega) (Nat.le_of_ble_eq_true rfl) dL_wells_1055 (by rw [eS41]; first | done | (rfl)) ?_
        refine g_iinc X [(19, .int (nI (i32 + 1))), (0, .ref (y 0)), (1, .ref (y 1)), (3, .ref (y 3)), (4, .ref (y 5)), (10, .ref (y 12)), (17, .long a23)] (q := 6) (v := nI (i32 + 1)) dL_wells_1056 rfl ((congrArg (fun z => nI (i32) + z) (show Int32.ofInt 1 = nI 1 by decide +kernel)).trans ((nI_add _ _).trans (congrArg nI (by omega)))) (Nat.le_of_ble_eq_true rfl) rfl ?_
        refine g_goto X (tgt := 958) dL_wells_1059 (by decide) ?_
        refine g_lv _ [1, 2, 3, 4, 5, 6, 0] rfl ?_
        exact ihL31 (i32 + 1) _ (by omega) (by show _ = gb2 C _ i32 (itr _ _ i32); rw [← eS34, ← gb2_l (N := N) h3 hlti32 h38 (fun z => (congrFun hTc.1 i32).trans (h5v.2 h38 ((ret_6 hTc.2).symm.trans z))), eS41, eS40, eS39]; rfl)
  refine g_lv _ [1, 2, 3, 4, 6, 9, 0] rfl ?_
  exact L31 ((N 0)) 0 _ (by omega) (by first | rfl | ((try rw [eS29]); (try rw [eS26]); (try rw [ea23]); (try rw [eS22]); (try rw [ev17]); (try rw [ea13]); (try rw [ea12]); (try rw [ea11]); (try rw [eS10]); (try rw [eS4]); first | done | rfl))
set_option maxRecDepth 100000 in
set_option maxHeartbeats 4000000 in
theorem n_L_wells_817 (l : Launch) (D : va_G) (cI cJ cZ : ClassId) (y : Nat → Nat) (C : Cf) (N : Nat → Nat) (S : St) (Qk : Nat → Int64) (k : Int) (hC : Cok C N) (h3 : R01 C N) (hW : Wk k S) (h0 : 0 ≤ k) (hk : k + 200000000 ≤ 1099511627776) (hE : Wel N S) (hn0 : N 0 ≤ 8) (hn1 : N 1 ≤ 3) (hn2 : N 2 ≤ 3) {p : Program} {e : Env} {s : State} {m : MethodId} {args : Array Value} {below : List Frame} {meth : Method} {c : Code} {A : Nat → Prop} (X : g_Cx p s m args c D A 29 cL_wells RL cI cJ cZ) (hr : meth.sig.returnType = none) (hlk : meth.locks = false) {Q : State → Prop} (hQ : MQ below (g_Post D A (g_eq none (wL y cI cJ C N (wlS C N S) Qk))) args s 0 0 A = Q) (S4 : St) (eS4 : S4 = itr (shW C N) S (N 0)) (S10 : St) (eS10 : S10 = itr (dwS C N) S4 (N 0)) (a11 : Int64) (ea11 : a11 = brn C N S4 (N 0)) (a12 : Int64) (ea12 : a12 = brh C N S4 (N 0)) (a13 : Int64) (ea13 : a13 = wgt C S4 (N 0)) (v17 : Int64) (ev17 : v17 = (if ¬ a11 = (0 : Int64) then a12 / a11 else (0 : Int64))) (S22 : St) (eS22 : S22 = u2 S10 12 5 (selP C a11 a12 (S10 12 5) (N 1)).2) (a23 : Int64) (ea23 : a23 = (selP C a11 a12 (S10 12 5) (N 1)).1) : g_G p l e rm_L_wells s m args below meth c D A 29 0 0 Q (wL y cI cJ C N S22 Qk) [(0, .ref (y 0)), (1, .ref (y 1)), (3, .ref (y 3)), (4, .ref (y 5)), (8, .ref (y 9)), (9, .ref (y 10)), (10, .ref (y 12)), (11, .long a11), (15, .long a13), (17, .long a23), (19, .int (nI (N 1)))] 817 [] := by
  have hN0 := hC.n0
  have hN1 := hC.n1
  have hN2 := hC.n2
  have hN0 := hC.n0
  have hN1 := hC.n1
  have hN2 := hC.n2
  obtain ⟨hc36, hc3, hc5, hcw⟩ := wl_C (N := N) eS4 eS10 eS22
  have hb2 : 0 ≤ (a11).toInt ∧ (a11).toInt ≤ 10000 := by have := brn_ok hC (sh_ok hW hE (N 0)).1 (by omega) (sh_ok hW hE (N 0)).2 (N 0) (Nat.le_refl _); rw [ea11, eS4]; omega
  refine g_aload X 5 dL_wells_817 rfl ?_
  refine g_iconst X (v := nI 2) dL_wells_819 (by decide +kernel) ?_
  refine g_dup2_11 X dL_wells_820 rfl rfl ?_
  refine g_lald X 10 rfl (2) rfl (by omega) (Nat.le_of_ble_eq_true rfl) (v := S22 12 2) rfl dL_wells_821 ?_
  refine g_lload X 7 dL_wells_822 rfl ?_
  refine g_ladd X (v := (S22 12 2) + a11) dL_wells_824 rfl ?_
  obtain ⟨S26, eS26⟩ : ∃ z : St, z = u2 S22 12 2 ((S22 12 2) + a11) := ⟨_, rfl⟩
  refine g_last X (ws' := wL y cI cJ C N S26 Qk) 10 rfl (2) rfl (by omega) (Nat.le_of_ble_eq_true rfl) dL_wells_825 (by rw [eS26]; first | done | (rfl)) ?_
  refine g_aload X 6 dL_wells_826 rfl ?_
  refine g_iconst X (v := nI 1) dL_wells_828 (by decide +kernel) ?_
  refine g_iald X 12 rfl (1) rfl (by omega) (Nat.le_of_ble_eq_true rfl) (v := nI (N 0)) rfl dL_wells_829 ?_
  refine g_iconst X (v := nI 1) dL_wells_830 (by decide +kernel) ?_
  refine g_isub X (v := dI (N 0)) dL_wells_831 rfl ?_
  refine g_istore X [(19, .int (dI (N 0))), (0, .ref (y 0)), (1, .ref (y 1)), (3, .ref (y 3)), (4, .ref (y 5)), (8, .ref (y 9)), (9, .ref (y 10)), (10, .ref (y 12)), (11, .long a11), (15, .long a13), (17, .long a23)] dL_wells_832 (Nat.le_of_ble_eq_true rfl) rfl ?_
  have L27 : ∀ (n28 : Nat) (S29 : St), n28 ≤ (N 0) → S29 = gdN C a11 a13 S26 (N 0) (N 0 - n28) → g_G p l e rm_L_wells s m args below meth c D A 29 0 0 Q (wL y cI cJ C N S29 Qk) [(0, .ref (y 0)), (1, .ref (y 1)), (3, .ref (y 3)), (4, .ref (y 5)), (9, .ref (y 10)), (10, .ref (y 12)), (11, .long a11), (15, .long a13), (17, .long a23), (19, .int (dI n28))] 834 [] := by
    intro n28
    induction n28 with
    | zero =>
      intro S29 hi30 eS29
      refine g_iload X 9 dL_wells_834 rfl ?_
      refine g_if_lt X (tgt := 955) dL_wells_836 (by decide) (fun _ => ?_) (fun h => absurd (by decide) h)
      exact n_L_wells_955 l D cI cJ cZ y C N S Qk k hC h3 hW h0 hk hE hn0 hn1 hn2 X hr hlk hQ S4 eS4 S10 eS10 a11 ea11 a12 ea12 a13 ea13 v17 ev17 S22 eS22 a23 ea23 S26 eS26 S29 eS29
    | succ n28 ihL27 =>
      intro S29 hi30 eS29
      refine g_lvq (lv' := [(0, .ref (y 0)), (1, .ref (y 1)), (3, .ref (y 3)), (4, .ref (y 5)), (9, .ref (y 10)), (10, .ref (y 12)), (11, .long a11), (15, .long a13), (17, .long a23), (19, .int (nI n28))]) (by rw [dI_s n28]) ?_
      have hltn28 : n28 < (N 0) := by omega
      have hpl := (hC.pl hltn28).2
      have hmu := hC.mu hltn28
      have hg3 : C 3 n28 = nI 1 → (S29 6 n28).toInt32 = 0 → S29 3 (plN C n28) ≤ 1999 := by rw [eS29, gdN_c (by decide) (by decide), gdN_c (by decide) (by decide), eS26, u2_c _ _ _ (by decide), u2_c _ _ _ (by decide)]; exact hc3 n28 hltn28
      refine g_iload X 9 dL_wells_834 rfl ?_
      refine g_if_lt X (tgt := 955) dL_wells_836 (by decide) (fun h => absurd h (nI_nlt (by omega))) (fun _ => ?_)
      refine g_aload X 3 dL_wells_839 rfl ?_
      refine g_bipush X (v := nI 7) dL_wells_841 (by decide +kernel) ?_
      refine g_iload X 9 dL_wells_843 rfl ?_
      refine g_imul X (v := nI (7 * n28)) dL_wells_845 (pk_mul _ _) ?_
      refine g_iconst X (v := nI 1) dL_wells_846 (by decide +kernel) ?_
      refine g_iadd X (v := nI (7 * n28 + 1)) dL_wells_847 ((nI_add _ _).trans (congrArg nI (by omega))) ?_
      refine g_iald X 5 rfl (7 * n28 + 1) rfl (by omega) (Nat.le_of_ble_eq_true rfl) (v := C 3 n28) (eE_1 C N S29 n28) dL_wells_848 ?_
      refine g_iconst X (v := nI 1) dL_wells_849 (by decide +kernel) ?_
      refine g_icmp_ne X (tgt := 949) dL_wells_850 (by decide) (fun h42 => ?_) (fun h42 => ?_)
      · --
        refine g_iinc X [(19, .int (dI n28)), (0, .ref (y 0)), (1, .ref (y 1)), (3, .ref (y 3)), (4, .ref (y 5)), (9, .ref (y 10)), (10, .ref (y 12)), (11, .long a11), (15, .long a13), (17, .long a23)] (q := 9) (v := dI n28) dL_wells_949 rfl (dI_inc _) (Nat.le_of_ble_eq_true rfl) rfl ?_
        refine g_goto X (tgt := 834) dL_wells_952 (by decide) ?_
        refine g_lv _ [1, 2, 3, 4, 5, 6, 7, 8, 9, 0] rfl ?_
        exact ihL27 _ (by omega) (by rw [gdN_s hltn28, ← eS29]; rw [gdW_n (ret_n h42 (h3 n28 hltn28))])
      · --
        refine g_aload X 3 dL_wells_853 rfl ?_
        refine g_bipush X (v := nI 7) dL_wells_855 (by decide +kernel) ?_
        refine g_iload X 9 dL_wells_857 rfl ?_
        refine g_imul X (v := nI (7 * n28)) dL_wells_859 (pk_mul _ _) ?_
        refine g_iconst X (v := nI 5) dL_wells_860 (by decide +kernel) ?_
        refine g_iadd X (v := nI (7 * n28 + 5)) dL_wells_861 ((nI_add _ _).trans (congrArg nI (by omega))) ?_
        refine g_iald X 5 rfl (7 * n28 + 5) rfl (by omega) (Nat.le_of_ble_eq_true rfl) (v := (S29 6 n28).toInt32) (eE_5 C N S29 n28) dL_wells_862 ?_
        refine g_if_ne X (tgt := 949) dL_wells_863 (by decide) (fun h43 => ?_) (fun h43 => ?_)
        · --
          refine g_iinc X [(19, .int (dI n28)), (0, .ref (y 0)), (1, .ref (y 1)), (3, .ref (y 3)), (4, .ref (y 5)), (9, .ref (y 10)), (10, .ref (y 12)), (11, .long a11), (15, .long a13), (17, .long a23)] (q := 9) (v := dI n28) dL_wells_949 rfl (dI_inc _) (Nat.le_of_ble_eq_true rfl) rfl ?_
          refine g_goto X (tgt := 834) dL_wells_952 (by decide) ?_
          refine g_lv _ [1, 2, 3, 4, 5, 6, 7, 8, 9, 0] rfl ?_
          exact ihL27 _ (by omega) (by rw [gdN_s hltn28, ← eS29]; rw [gdW_n (ret_s h43)])
        · --
          refine g_lload X 7 dL_wells_866 rfl ?_
          refine g_lconst X (v := 0) dL_wells_868 (by decide +kernel) ?_
          refine g_lj_le X (tgt := 949) (pc1 := 870) dL_wells_869 rfl dL_wells_870 (by decide) (fun h44 => ?_) (fun h44 => ?_)
          · --
            refine g_iinc X [(19, .int (dI n28)), (0, .ref (y 0)), (1, .ref (y 1)), (3, .ref (y 3)), (4, .ref (y 5)), (9, .ref (y 10)), (10, .ref (y 12)), (11, .long a11), (15, .long a13), (17, .long a23)] (q := 9) (v := dI n28) dL_wells_949 rfl (dI_inc _) (Nat.le_of_ble_eq_true rfl) rfl ?_
            refine g_goto X (tgt := 834) dL_wells_952 (by decide) ?_
            refine g_lv _ [1, 2, 3, 4, 5, 6, 7, 8, 9, 0] rfl ?_
            exact ihL27 _ (by omega) (by rw [gdN_s hltn28, ← eS29]; rw [gdW_w h44])
          · --
            refine g_lload X 6 dL_wells_873 rfl ?_
            refine g_aload X 3 dL_wells_875 rfl ?_
            refine g_bipush X (v := nI 7) dL_wells_877 (by decide +kernel) ?_
            refine g_iload X 9 dL_wells_879 rfl ?_
            refine g_imul X (v := nI (7 * n28)) dL_wells_881 (pk_mul _ _) ?_
            refine g_iconst X (v := nI 2) dL_wells_882 (by decide +kernel) ?_
            refine g_iadd X (v := nI (7 * n28 + 2)) dL_wells_883 ((nI_add _ _).trans (congrArg nI (by omega))) ?_
            refine g_iald X 5 rfl (7 * n28 + 2) rfl (by omega) (Nat.le_of_ble_eq_true rfl) (v := C 4 n28) (eE_2 C N S29 n28) dL_wells_884 ?_
            refine g_i2l X (v := (C 4 n28).toInt64) dL_wells_885 rfl ?_
            refine g_lmul X (v := a11 * ((C 4 n28).toInt64)) dL_wells_886 rfl ?_
            refine g_lload X 7 dL_wells_887 rfl ?_
            refine g_ldiv X (v := (a11 * ((C 4 n28).toInt64)) / a13) dL_wells_889 (by assumption) rfl ?_
            obtain ⟨x45, ex45⟩ : ∃ z : Int64, z = (a11 * ((C 4 n28).toInt64)) / a13 := ⟨_, rfl⟩
            refine g_st (st' := [.long x45]) (by rw [ex45]; first | done | rfl) ?_
            refine g_lstore X [(20, .long x45), (0, .ref (y 0)), (1, .ref (y 1)), (3, .ref (y 3)), (4, .ref (y 5)), (9, .ref (y 10)), (10, .ref (y 12)), (11, .long a11), (15, .long a13), (17, .long a23), (19, .int (nI n28))] dL_wells_890 (Nat.le_of_ble_eq_true rfl) rfl ?_
            refine g_aload X 4 dL_wells_892 rfl ?_
            refine g_bipush X (v := nI 7) dL_wells_894 (by decide +kernel) ?_
            refine g_iload X 10 dL_wells_896 rfl ?_
            refine g_imul X (v := nI (7 * n28)) dL_wells_898 (pk_mul _ _) ?_
            refine g_iconst X (v := nI 4) dL_wells_899 (by decide +kernel) ?_
            refine g_iadd X (v := nI (7 * n28 + 4)) dL_wells_900 ((nI_add _ _).trans (congrArg nI (by omega))) ?_
            refine g_aload_n X 3 dL_wells_901 rfl rfl ?_
            refine g_aload X 4 dL_wells_902 rfl ?_
            refine g_bipush X (v := nI 7) dL_wells_904 (by decide +kernel) ?_
            refine g_iload X 10 dL_wells_906 rfl ?_
            refine g_imul X (v := nI (7 * n28)) dL_wells_908 (pk_mul _ _) ?_
            refine g_iald X 5 rfl (7 * n28) rfl (by omega) (Nat.le_of_ble_eq_true rfl) (v := nI (plN C n28)) ((eE_0 C N S29 n28).trans (hC.pl (by omega)).1) dL_wells_909 ?_
            refine g_lald X 3 rfl (plN C n28) rfl (by omega) (Nat.le_of_ble_eq_true rfl) (v := S29 3 (plN C n28)) rfl dL_wells_910 ?_
            refine g_ldc2 X kL_L_48 dL_wells_911 ?_
            have J48 : ∀ (v47 : Int64), v47 = (if (S29 3 (plN C n28)) ≤ (999 : Int64) then x45 else x45 / (2 : Int64)) → g_G p l e rm_L_wells s m args below meth c D A 29 0 0 Q (wL y cI cJ C N S29 Qk) [(0, .ref (y 0)), (1, .ref (y 1)), (3, .ref (y 3)), (4, .ref (y 5)), (9, .ref (y 10)), (10, .ref (y 12)), (11, .long a11), (15, .long a13), (17, .long a23), (19, .int (nI n28))] 929 [.long v47, .int (nI (7 * n28 + 4)), .ref (y 5)] := by
              intro v47 ev47
              replace ev47 := ev47.trans (show _ = partV C S29 a11 n28 a13 from by rw [ex45]; exact part_l (by assumption) (hg3 (by assumption) (by assumption)))
              refine g_l2i X (v := v47.toInt32) dL_wells_929 rfl ?_
              obtain ⟨S49, eS49⟩ : ∃ z : St, z = u2 S29 5 n28 v47 := ⟨_, rfl⟩
              refine g_iast X (ws' := wL y cI cJ C N S49 Qk) 5 rfl (7 * n28 + 4) rfl (by omega) (Nat.le_of_ble_eq_true rfl) dL_wells_930 (by rw [eS49]; first | done | (rw [eE_w4 _ _ _ n28 (v := v47) rfl]; rfl)) ?_
              refine g_aload X 4 dL_wells_931 rfl ?_
              refine g_iconst X (v := nI 2) dL_wells_933 (by decide +kernel) ?_
              refine g_dup2_11 X dL_wells_934 rfl rfl ?_
              refine g_lald X 10 rfl (2) rfl (by omega) (Nat.le_of_ble_eq_true rfl) (v := S49 12 2) rfl dL_wells_935 ?_
              refine g_aload X 3 dL_wells_936 rfl ?_
              refine g_bipush X (v := nI 7) dL_wells_938 (by decide +kernel) ?_
              refine g_iload X 9 dL_wells_940 rfl ?_
              refine g_imul X (v := nI (7 * n28)) dL_wells_942 (pk_mul _ _) ?_
              refine g_iconst X (v := nI 4) dL_wells_943 (by decide +kernel) ?_
              refine g_iadd X (v := nI (7 * n28 + 4)) dL_wells_944 ((nI_add _ _).trans (congrArg nI (by omega))) ?_
              refine g_iald X 5 rfl (7 * n28 + 4) rfl (by omega) (Nat.le_of_ble_eq_true rfl) (v := (S49 5 n28).toInt32) (eE_4 C N S49 n28) dL_wells_945 ?_
              refine g_i2l X (v := v47) dL_wells_946 (by rw [eS49, u2_same, ev47]; exact i32r (part_ok hmu hb2.1 hb2.2).1 (Int.le_trans (part_ok hmu hb2.1 hb2.2).2 (by decide))) ?_
              refine g_lsub X (v := (S49 12 2) - v47) dL_wells_947 rfl ?_
              obtain ⟨S50, eS50⟩ : ∃ z : St, z = u2 S49 12 2 ((S49 12 2) - v47) := ⟨_, rfl⟩
              refine g_last X (ws' := wL y cI cJ C N S50 Qk) 10 rfl (2) rfl (by omega) (Nat.le_of_ble_eq_true rfl) dL_wells_948 (by rw [eS50]; first | done | (rfl)) ?_
              refine g_iinc X [(19, .int (dI n28)), (0, .ref (y 0)), (1, .ref (y 1)), (3, .ref (y 3)), (4, .ref (y 5)), (9, .ref (y 10)), (10, .ref (y 12)), (11, .long a11), (15, .long a13), (17, .long a23)] (q := 9) (v := dI n28) dL_wells_949 rfl (dI_inc _) (Nat.le_of_ble_eq_true rfl) rfl ?_
              refine g_goto X (tgt := 834) dL_wells_952 (by decide) ?_
              refine g_lv _ [1, 2, 3, 4, 5, 6, 7, 8, 9, 0] rfl ?_
              exact ihL27 _ (by omega) (by rw [gdN_s hltn28, ← eS29]; unfold gdW; rw [if_neg (ret_y h42 h43), if_neg h44, eS50, eS49, ev47]; rfl)
            refine g_lj_le X (tgt := 927) (pc1 := 915) dL_wells_914 rfl dL_wells_915 (by decide) (fun h46 => ?_) (fun h46 => ?_)
            · --
              refine g_lload X 0 dL_wells_927 rfl ?_
              refine g_lv _ [1, 2, 3, 4, 5, 6, 7, 8, 9, 10] rfl ?_
              exact J48 _ (by rw [if_pos (c := (S29 3 (plN C n28)) ≤ (999 : Int64)) h46])
            · --
              refine g_lload X 0 dL_wells_918 rfl ?_
              refine g_ldc2 X kL_L_50 dL_wells_920 ?_
              refine g_ldiv X (v := x45 / (2 : Int64)) dL_wells_923 (by decide +kernel) rfl ?_
              refine g_goto X (tgt := 929) dL_wells_924 (by decide) ?_
              refine g_lv _ [1, 2, 3, 4, 5, 6, 7, 8, 9, 10] rfl ?_
              exact J48 _ (by rw [if_neg (c := (S29 3 (plN C n28)) ≤ (999 : Int64)) h46])
  refine g_lv _ [1, 2, 3, 4, 6, 7, 8, 9, 10, 0] rfl ?_
  exact L27 (N 0) _ (Nat.le_refl _) (by rw [Nat.sub_self]; rfl)
set_option maxRecDepth 100000 in
set_option maxHeartbeats 4000000 in
theorem n_L_wells_704 (l : Launch) (D : va_G) (cI cJ cZ : ClassId) (y : Nat → Nat) (C : Cf) (N : Nat → Nat) (S : St) (Qk : Nat → Int64) (k : Int) (hC : Cok C N) (h3 : R01 C N) (hW : Wk k S) (h0 : 0 ≤ k) (hk : k + 200000000 ≤ 1099511627776) (hE : Wel N S) (hn0 : N 0 ≤ 8) (hn1 : N 1 ≤ 3) (hn2 : N 2 ≤ 3) {p : Program} {e : Env} {s : State} {m : MethodId} {args : Array Value} {below : List Frame} {meth : Method} {c : Code} {A : Nat → Prop} (X : g_Cx p s m args c D A 29 cL_wells RL cI cJ cZ) (hr : meth.sig.returnType = none) (hlk : meth.locks = false) {Q : State → Prop} (hQ : MQ below (g_Post D A (g_eq none (wL y cI cJ C N (wlS C N S) Qk))) args s 0 0 A = Q) (S4 : St) (eS4 : S4 = itr (shW C N) S (N 0)) (S10 : St) (eS10 : S10 = itr (dwS C N) S4 (N 0)) (a11 : Int64) (ea11 : a11 = brn C N S4 (N 0)) (a12 : Int64) (ea12 : a12 = brh C N S4 (N 0)) (a13 : Int64) (ea13 : a13 = wgt C S4 (N 0)) : g_G p l e rm_L_wells s m args below meth c D A 29 0 0 Q (wL y cI cJ C N S10 Qk) [(0, .ref (y 0)), (1, .ref (y 1)), (2, .ref (y 2)), (3, .ref (y 3)), (4, .ref (y 5)), (5, .ref (y 6)), (6, .ref (y 7)), (7, .ref (y 8)), (8, .ref (y 9)), (9, .ref (y 10)), (10, .ref (y 12)), (11, .long a11), (13, .long a12), (15, .long a13), (17, .int (nI (N 0)))] 704 [] := by
  have hN0 := hC.n0
  have hN1 := hC.n1
  have hN2 := hC.n2
  have hN0 := hC.n0
  have hN1 := hC.n1
  have hN2 := hC.n2
  have hbr : 0 ≤ (a11).toInt := by rw [ea11]; exact (brn_ok hC (sh_ok hW hE (N 0)).1 (by omega) (sh_ok hW hE (N 0)).2 (N 0) (Nat.le_refl _)).1
  refine g_lload X 11 dL_wells_704 rfl ?_
  refine g_lconst X (v := 0) dL_wells_706 (by decide +kernel) ?_
  have J18 : ∀ (v17 : Int64), v17 = (if ¬ a11 = (0 : Int64) then a12 / a11 else (0 : Int64)) → g_G p l e rm_L_wells s m args below meth c D A 29 0 0 Q (wL y cI cJ C N S10 Qk) [(0, .ref (y 0)), (1, .ref (y 1)), (3, .ref (y 3)), (4, .ref (y 5)), (8, .ref (y 9)), (9, .ref (y 10)), (10, .ref (y 12)), (11, .long a11), (15, .long a13)] 720 [.long v17] := by
    intro v17 ev17
    refine g_lstore X [(17, .long v17), (0, .ref (y 0)), (1, .ref (y 1)), (3, .ref (y 3)), (4, .ref (y 5)), (8, .ref (y 9)), (9, .ref (y 10)), (10, .ref (y 12)), (11, .long a11), (15, .long a13)] dL_wells_720 (Nat.le_of_ble_eq_true rfl) rfl ?_
    refine g_iconst X (v := nI 0) dL_wells_722 (by decide +kernel) ?_
    refine g_istore X [(19, .int (nI 0)), (17, .long v17), (0, .ref (y 0)), (1, .ref (y 1)), (3, .ref (y 3)), (4, .ref (y 5)), (8, .ref (y 9)), (9, .ref (y 10)), (10, .ref (y 12)), (11, .long a11), (15, .long a13)] dL_wells_723 (Nat.le_of_ble_eq_true rfl) rfl ?_
    have L19 : ∀ (n21 i20 : Nat) (S22 : St) (a23 : Int64), i20 + n21 = (N 1) → S22 = u2 S10 12 5 (selP C a11 a12 (S10 12 5) i20).2 → a23 = (selP C a11 a12 (S10 12 5) i20).1 → g_G p l e rm_L_wells s m args below meth c D A 29 0 0 Q (wL y cI cJ C N S22 Qk) [(0, .ref (y 0)), (1, .ref (y 1)), (3, .ref (y 3)), (4, .ref (y 5)), (8, .ref (y 9)), (9, .ref (y 10)), (10, .ref (y 12)), (11, .long a11), (15, .long a13), (17, .long a23), (19, .int (nI i20))] 725 [] := by
      intro n21
      induction n21 with
      | zero =>
        intro i20 S22 a23 hi24 eS22 ea23
        obtain rfl : i20 = (N 1) := by omega
        refine g_iload X 10 dL_wells_725 rfl ?_
        refine g_aload X 6 dL_wells_727 rfl ?_
        refine g_iconst X (v := nI 3) dL_wells_729 (by decide +kernel) ?_
        refine g_iald X 12 rfl (3) rfl (by omega) (Nat.le_of_ble_eq_true rfl) (v := nI (N 1)) rfl dL_wells_730 ?_
        refine g_icN_ge X (a := (N 1)) (b := N 1) (tgt := 817) (by omega) (by omega) dL_wells_731 (by decide) (fun h25 => ?_) (fun h25 => absurd h25 (by omega))
        exact n_L_wells_817 l D cI cJ cZ y C N S Qk k hC h3 hW h0 hk hE hn0 hn1 hn2 X hr hlk hQ S4 eS4 S10 eS10 a11 ea11 a12 ea12 a13 ea13 v17 ev17 S22 eS22 a23 ea23
      | succ n21 ihL19 =>
        intro i20 S22 a23 hi24 eS22 ea23
        have hlti20 : i20 < (N 1) := by omega
        refine g_iload X 10 dL_wells_725 rfl ?_
        refine g_aload X 6 dL_wells_727 rfl ?_
        refine g_iconst X (v := nI 3) dL_wells_729 (by decide +kernel) ?_
        refine g_iald X 12 rfl (3) rfl (by omega) (Nat.le_of_ble_eq_true rfl) (v := nI (N 1)) rfl dL_wells_730 ?_
        refine g_icN_ge X (a := i20) (b := N 1) (tgt := 817) (by omega) (by omega) dL_wells_731 (by decide) (fun h51 => absurd h51 (by omega)) (fun h51 => ?_)
        refine g_lload X 7 dL_wells_734 rfl ?_
        refine g_lconst X (v := 0) dL_wells_736 (by decide +kernel) ?_
        have J56 : ∀ (v55 : Int64), v55 = (if a11 = (0 : Int64) then (0 : Int64) else if ((C 5 i20).toInt64) ≤ a23 then if ((C 6 i20).toInt64) ≤ a23 then (C 6 i20).toInt64 else a23 else (0 : Int64)) → g_G p l e rm_L_wells s m args below meth c D A 29 0 0 Q (wL y cI cJ C N S22 Qk) [(0, .ref (y 0)), (1, .ref (y 1)), (3, .ref (y 3)), (4, .ref (y 5)), (8, .ref (y 9)), (9, .ref (y 10)), (10, .ref (y 12)), (11, .long a11), (15, .long a13), (17, .long a23), (19, .int (nI i20))] 790 [.long v55] := by
          intro v55 ev55
          obtain ⟨x57, ex57⟩ : ∃ z : Int64, z = v55 := ⟨_, rfl⟩
          refine g_st (st' := [.long x57]) (by rw [ex57]; first | done | rfl) ?_
          refine g_lstore X [(20, .long x57), (0, .ref (y 0)), (1, .ref (y 1)), (3, .ref (y 3)), (4, .ref (y 5)), (8, .ref (y 9)), (9, .ref (y 10)), (10, .ref (y 12)), (11, .long a11), (15, .long a13), (17, .long a23), (19, .int (nI i20))] dL_wells_790 (Nat.le_of_ble_eq_true rfl) rfl ?_
          refine g_aload X 6 dL_wells_792 rfl ?_
          refine g_iconst X (v := nI 5) dL_wells_794 (by decide +kernel) ?_
          refine g_dup2_11 X dL_wells_795 rfl rfl ?_
          refine g_lald X 10 rfl (5) rfl (by omega) (Nat.le_of_ble_eq_true rfl) (v := S22 12 5) rfl dL_wells_796 ?_
          refine g_lload X 0 dL_wells_797 rfl ?_
          refine g_lload X 8 dL_wells_799 rfl ?_
          refine g_lmul X (v := x57 * a11) dL_wells_801 rfl ?_
          refine g_ladd X (v := (S22 12 5) + (x57 * a11)) dL_wells_802 rfl ?_
          obtain ⟨S58, eS58⟩ : ∃ z : St, z = u2 S22 12 5 ((S22 12 5) + (x57 * a11)) := ⟨_, rfl⟩
          refine g_last X (ws' := wL y cI cJ C N S58 Qk) 10 rfl (5) rfl (by omega) (Nat.le_of_ble_eq_true rfl) dL_wells_803 (by rw [eS58]; first | done | (rfl)) ?_
          refine g_lload X 10 dL_wells_804 rfl ?_
          refine g_lload X 0 dL_wells_806 rfl ?_
          refine g_lsub X (v := a23 - x57) dL_wells_808 rfl ?_
          refine g_lstore X [(17, .long (a23 - x57)), (20, .long x57), (0, .ref (y 0)), (1, .ref (y 1)), (3, .ref (y 3)), (4, .ref (y 5)), (8, .ref (y 9)), (9, .ref (y 10)), (10, .ref (y 12)), (11, .long a11), (15, .long a13), (19, .int (nI i20))] dL_wells_809 (Nat.le_of_ble_eq_true rfl) rfl ?_
          refine g_iinc X [(19, .int (nI (i20 + 1))), (17, .long (a23 - x57)), (20, .long x57), (0, .ref (y 0)), (1, .ref (y 1)), (3, .ref (y 3)), (4, .ref (y 5)), (8, .ref (y 9)), (9, .ref (y 10)), (10, .ref (y 12)), (11, .long a11), (15, .long a13)] (q := 11) (v := nI (i20 + 1)) dL_wells_811 rfl ((congrArg (fun z => nI (i20) + z) (show Int32.ofInt 1 = nI 1 by decide +kernel)).trans ((nI_add _ _).trans (congrArg nI (by omega)))) (Nat.le_of_ble_eq_true rfl) rfl ?_
          refine g_goto X (tgt := 725) dL_wells_814 (by decide) ?_
          refine g_lv _ [3, 4, 5, 6, 7, 8, 9, 10, 11, 1, 0] rfl ?_
          exact ihL19 (i20 + 1) _ _ (by omega) (by rw [eS58, eS22, u2_twice, u2_same, sel_l hbr, ex57, ea23]) (by rw [sel_l hbr, ex57, ea23])
        refine g_lj_eq X (tgt := 755) (pc1 := 738) dL_wells_737 rfl dL_wells_738 (by decide) (fun h52 => ?_) (fun h52 => ?_)
        · --
          refine g_lconst X (v := 0) dL_wells_755 (by decide +kernel) ?_
          refine g_goto X (tgt := 790) dL_wells_756 (by decide) ?_
          exact J56 _ (by rw [if_pos (c := a11 = (0 : Int64)) h52])
        · --
          refine g_lload X 9 dL_wells_741 rfl ?_
          refine g_aload X 4 dL_wells_743 rfl ?_
          refine g_iconst X (v := nI 2) dL_wells_745 (by decide +kernel) ?_
          refine g_iload X 10 dL_wells_746 rfl ?_
          refine g_imul X (v := nI (2 * i20)) dL_wells_748 (pk_mul _ _) ?_
          refine g_iald X 9 rfl (2 * i20) rfl (by omega) (Nat.le_of_ble_eq_true rfl) (v := C 5 i20) (eU_0 C i20) dL_wells_749 ?_
          refine g_i2l X (v := (C 5 i20).toInt64) dL_wells_750 rfl ?_
          refine g_lj_ge X (tgt := 759) (pc1 := 752) dL_wells_751 rfl dL_wells_752 (by decide) (fun h53 => ?_) (fun h53 => ?_)
          · --
            refine g_lload X 9 dL_wells_759 rfl ?_
            refine g_aload X 4 dL_wells_761 rfl ?_
            refine g_iconst X (v := nI 2) dL_wells_763 (by decide +kernel) ?_
            refine g_iload X 10 dL_wells_764 rfl ?_
            refine g_imul X (v := nI (2 * i20)) dL_wells_766 (pk_mul _ _) ?_
            refine g_iconst X (v := nI 1) dL_wells_767 (by decide +kernel) ?_
            refine g_iadd X (v := nI (2 * i20 + 1)) dL_wells_768 ((nI_add _ _).trans (congrArg nI (by omega))) ?_
            refine g_iald X 9 rfl (2 * i20 + 1) rfl (by omega) (Nat.le_of_ble_eq_true rfl) (v := C 6 i20) (eU_1 C i20) dL_wells_769 ?_
            refine g_i2l X (v := (C 6 i20).toInt64) dL_wells_770 rfl ?_
            refine g_lj_ge X (tgt := 780) (pc1 := 772) dL_wells_771 rfl dL_wells_772 (by decide) (fun h54 => ?_) (fun h54 => ?_)
            · --
              refine g_aload X 4 dL_wells_780 rfl ?_
              refine g_iconst X (v := nI 2) dL_wells_782 (by decide +kernel) ?_
              refine g_iload X 10 dL_wells_783 rfl ?_
              refine g_imul X (v := nI (2 * i20)) dL_wells_785 (pk_mul _ _) ?_
              refine g_iconst X (v := nI 1) dL_wells_786 (by decide +kernel) ?_
              refine g_iadd X (v := nI (2 * i20 + 1)) dL_wells_787 ((nI_add _ _).trans (congrArg nI (by omega))) ?_
              refine g_iald X 9 rfl (2 * i20 + 1) rfl (by omega) (Nat.le_of_ble_eq_true rfl) (v := C 6 i20) (eU_1 C i20) dL_wells_788 ?_
              refine g_i2l X (v := (C 6 i20).toInt64) dL_wells_789 rfl ?_
              exact J56 _ (by rw [if_neg (c := a11 = (0 : Int64)) h52, if_pos (c := ((C 5 i20).toInt64) ≤ a23) h53, if_pos (c := ((C 6 i20).toInt64) ≤ a23) h54])
            · --
              refine g_lload X 9 dL_wells_775 rfl ?_
              refine g_goto X (tgt := 790) dL_wells_777 (by decide) ?_
              exact J56 _ (by rw [if_neg (c := a11 = (0 : Int64)) h52, if_pos (c := ((C 5 i20).toInt64) ≤ a23) h53, if_neg (c := ((C 6 i20).toInt64) ≤ a23) h54])
          · --
            refine g_lconst X (v := 0) dL_wells_755 (by decide +kernel) ?_
            refine g_goto X (tgt := 790) dL_wells_756 (by decide) ?_
            exact J56 _ (by rw [if_neg (c := a11 = (0 : Int64)) h52, if_neg (c := ((C 5 i20).toInt64) ≤ a23) h53])
    refine g_lv _ [2, 3, 4, 5, 6, 7, 8, 9, 10, 1, 0] rfl ?_
    exact L19 ((N 1)) 0 _ _ (by omega) (u2_self _ _ _).symm (by rw [ev17]; exact sel_0 hbr)
  refine g_lj_ne X (tgt := 715) (pc1 := 708) dL_wells_707 rfl dL_wells_708 (by decide) (fun h16 => ?_) (fun h16 => ?_)
  · --
    refine g_lload X 12 dL_wells_715 rfl ?_
    refine g_lload X 11 dL_wells_717 rfl ?_
    refine g_ldiv X (v := a12 / a11) dL_wells_719 (by assumption) rfl ?_
    refine g_lv _ [0, 1, 3, 4, 8, 9, 10, 11, 13] rfl ?_
    exact J18 _ (by rw [if_pos (c := ¬ a11 = (0 : Int64)) h16])
  · --
    refine g_lconst X (v := 0) dL_wells_711 (by decide +kernel) ?_
    refine g_goto X (tgt := 720) dL_wells_712 (by decide) ?_
    refine g_lv _ [0, 1, 3, 4, 8, 9, 10, 11, 13] rfl ?_
    exact J18 _ (by rw [if_neg (c := ¬ a11 = (0 : Int64)) (fun z => z h16)])
set_option maxRecDepth 100000 in
set_option maxHeartbeats 4000000 in
theorem n_L_wells_174 (l : Launch) (D : va_G) (cI cJ cZ : ClassId) (y : Nat → Nat) (C : Cf) (N : Nat → Nat) (S : St) (Qk : Nat → Int64) (k : Int) (hC : Cok C N) (h3 : R01 C N) (hW : Wk k S) (h0 : 0 ≤ k) (hk : k + 200000000 ≤ 1099511627776) (hE : Wel N S) (hn0 : N 0 ≤ 8) (hn1 : N 1 ≤ 3) (hn2 : N 2 ≤ 3) {p : Program} {e : Env} {s : State} {m : MethodId} {args : Array Value} {below : List Frame} {meth : Method} {c : Code} {A : Nat → Prop} (X : g_Cx p s m args c D A 29 cL_wells RL cI cJ cZ) (hr : meth.sig.returnType = none) (hlk : meth.locks = false) {Q : State → Prop} (hQ : MQ below (g_Post D A (g_eq none (wL y cI cJ C N (wlS C N S) Qk))) args s 0 0 A = Q) (S4 : St) (eS4 : S4 = itr (shW C N) S (N 0)) : g_G p l e rm_L_wells s m args below meth c D A 29 0 0 Q (wL y cI cJ C N S4 Qk) [(0, .ref (y 0)), (1, .ref (y 1)), (2, .ref (y 2)), (3, .ref (y 3)), (4, .ref (y 5)), (5, .ref (y 6)), (6, .ref (y 7)), (7, .ref (y 8)), (8, .ref (y 9)), (9, .ref (y 10)), (10, .ref (y 12)), (11, .int (nI (N 0)))] 174 [] := by
  have hN0 := hC.n0
  have hN1 := hC.n1
  have hN2 := hC.n2
  have hN0 := hC.n0
  have hN1 := hC.n1
  have hN2 := hC.n2
  have hA : Wk k S4 ∧ Wel N S4 := by rw [eS4]; exact sh_ok hW hE (N 0)
  refine g_lconst X (v := 0) dL_wells_174 (by decide +kernel) ?_
  refine g_lstore X [(11, .long (0 : Int64)), (0, .ref (y 0)), (1, .ref (y 1)), (2, .ref (y 2)), (3, .ref (y 3)), (4, .ref (y 5)), (5, .ref (y 6)), (6, .ref (y 7)), (7, .ref (y 8)), (8, .ref (y 9)), (9, .ref (y 10)), (10, .ref (y 12))] dL_wells_175 (Nat.le_of_ble_eq_true rfl) rfl ?_
  refine g_lconst X (v := 0) dL_wells_177 (by decide +kernel) ?_
  refine g_lstore X [(13, .long (0 : Int64)), (11, .long (0 : Int64)), (0, .ref (y 0)), (1, .ref (y 1)), (2, .ref (y 2)), (3, .ref (y 3)), (4, .ref (y 5)), (5, .ref (y 6)), (6, .ref (y 7)), (7, .ref (y 8)), (8, .ref (y 9)), (9, .ref (y 10)), (10, .ref (y 12))] dL_wells_178 (Nat.le_of_ble_eq_true rfl) rfl ?_
  refine g_lconst X (v := 0) dL_wells_180 (by decide +kernel) ?_
  refine g_lstore X [(15, .long (0 : Int64)), (13, .long (0 : Int64)), (11, .long (0 : Int64)), (0, .ref (y 0)), (1, .ref (y 1)), (2, .ref (y 2)), (3, .ref (y 3)), (4, .ref (y 5)), (5, .ref (y 6)), (6, .ref (y 7)), (7, .ref (y 8)), (8, .ref (y 9)), (9, .ref (y 10)), (10, .ref (y 12))] dL_wells_181 (Nat.le_of_ble_eq_true rfl) rfl ?_
  refine g_iconst X (v := nI 0) dL_wells_183 (by decide +kernel) ?_
  refine g_istore X [(17, .int (nI 0)), (15, .long (0 : Int64)), (13, .long (0 : Int64)), (11, .long (0 : Int64)), (0, .ref (y 0)), (1, .ref (y 1)), (2, .ref (y 2)), (3, .ref (y 3)), (4, .ref (y 5)), (5, .ref (y 6)), (6, .ref (y 7)), (7, .ref (y 8)), (8, .ref (y 9)), (9, .ref (y 10)), (10, .ref (y 12))] dL_wells_184 (Nat.le_of_ble_eq_true rfl) rfl ?_
  have L7 : ∀ (n9 i8 : Nat) (S10 : St) (a11 : Int64) (a12 : Int64) (a13 : Int64), i8 + n9 = (N 0) → S10 = itr (dwS C N) S4 i8 → a11 = brn C N S4 i8 → a12 = brh C N S4 i8 → a13 = wgt C S4 i8 → g_G p l e rm_L_wells s m args below meth c D A 29 0 0 Q (wL y cI cJ C N S10 Qk) [(0, .ref (y 0)), (1, .ref (y 1)), (2, .ref (y 2)), (3, .ref (y 3)), (4, .ref (y 5)), (5, .ref (y 6)), (6, .ref (y 7)), (7, .ref (y 8)), (8, .ref (y 9)), (9, .ref (y 10)), (10, .ref (y 12)), (11, .long a11), (13, .long a12), (15, .long a13), (17, .int (nI i8))] 186 [] := by
    intro n9
    induction n9 with
    | zero =>
      intro i8 S10 a11 a12 a13 hi14 eS10 ea11 ea12 ea13
      obtain rfl : i8 = (N 0) := by omega
      refine g_iload X 14 dL_wells_186 rfl ?_
      refine g_aload X 10 dL_wells_188 rfl ?_
      refine g_iconst X (v := nI 1) dL_wells_190 (by decide +kernel) ?_
      refine g_iald X 12 rfl (1) rfl (by omega) (Nat.le_of_ble_eq_true rfl) (v := nI (N 0)) rfl dL_wells_191 ?_
      refine g_icN_ge X (a := (N 0)) (b := N 0) (tgt := 704) (by omega) (by omega) dL_wells_192 (by decide) (fun h15 => ?_) (fun h15 => absurd h15 (by omega))
      exact n_L_wells_704 l D cI cJ cZ y C N S Qk k hC h3 hW h0 hk hE hn0 hn1 hn2 X hr hlk hQ S4 eS4 S10 eS10 a11 ea11 a12 ea12 a13 ea13
    | succ n9 ihL7 =>
      intro i8 S10 a11 a12 a13 hi14 eS10 ea11 ea12 ea13
      have hlti8 : i8 < (N 0) := by omega
      have hD := dw_ok C N S4 k hC hA.1 (by omega) hA.2 i8 (by omega)
      rw [← eS10] at hD
      have hpl := (hC.pl hlti8).2
      have hm := hC.mu hlti8
      have hm2 := hm.2
      have hs4 := hD.2.1 i8 hlti8
      have hs42 := hs4.2
      have hmc := n_mul hm.2 (show 100 - scN S10 i8 ≤ 100 by omega)
      have h8 := hD.2.2.1 i8 hlti8
      have hdx := drx_m (C := C) hm.2 (hD.1 _ hpl).1
      have hdo := drW_ok (C := C) (S := S10) (w := i8) hm.2 (hD.1 _ hpl).1
      refine g_iload X 14 dL_wells_186 rfl ?_
      refine g_aload X 10 dL_wells_188 rfl ?_
      refine g_iconst X (v := nI 1) dL_wells_190 (by decide +kernel) ?_
      refine g_iald X 12 rfl (1) rfl (by omega) (Nat.le_of_ble_eq_true rfl) (v := nI (N 0)) rfl dL_wells_191 ?_
      refine g_icN_ge X (a := i8) (b := N 0) (tgt := 704) (by omega) (by omega) dL_wells_192 (by decide) (fun h59 => absurd h59 (by omega)) (fun h59 => ?_)
      refine g_aload X 4 dL_wells_195 rfl ?_
      refine g_bipush X (v := nI 7) dL_wells_197 (by decide +kernel) ?_
      refine g_iload X 14 dL_wells_199 rfl ?_
      refine g_imul X (v := nI (7 * i8)) dL_wells_201 (pk_mul _ _) ?_
      refine g_iald X 5 rfl (7 * i8) rfl (by omega) (Nat.le_of_ble_eq_true rfl) (v := nI (plN C i8)) ((eE_0 C N S10 i8).trans (hC.pl (by omega)).1) dL_wells_202 ?_
      refine g_istore X [(18, .int (nI (plN C i8))), (0, .ref (y 0)), (1, .ref (y 1)), (2, .ref (y 2)), (3, .ref (y 3)), (4, .ref (y 5)), (5, .ref (y 6)), (6, .ref (y 7)), (7, .ref (y 8)), (8, .ref (y 9)), (9, .ref (y 10)), (10, .ref (y 12)), (11, .long a11), (13, .long a12), (15, .long a13), (17, .int (nI i8))] dL_wells_203 (Nat.le_of_ble_eq_true rfl) rfl ?_
      refine g_lload X 14 dL_wells_205 rfl ?_
      refine g_aload X 5 dL_wells_207 rfl ?_
      refine g_bipush X (v := nI 7) dL_wells_209 (by decide +kernel) ?_
      refine g_iload X 15 dL_wells_211 rfl ?_
      refine g_imul X (v := nI (7 * i8)) dL_wells_213 (pk_mul _ _) ?_
      refine g_iconst X (v := nI 1) dL_wells_214 (by decide +kernel) ?_
      refine g_iadd X (v := nI (7 * i8 + 1)) dL_wells_215 ((nI_add _ _).trans (congrArg nI (by omega))) ?_
      refine g_iald X 5 rfl (7 * i8 + 1) rfl (by omega) (Nat.le_of_ble_eq_true rfl) (v := C 3 i8) (eE_1 C N S10 i8) dL_wells_216 ?_
      refine g_iconst X (v := nI 1) dL_wells_217 (by decide +kernel) ?_
      have J63 : ∀ (v62 : Int64), v62 = (if ¬ (C 3 i8) = (nI 1) then (0 : Int64) else if ¬ ((S10 6 i8).toInt32) = 0 then (0 : Int64) else (C 4 i8).toInt64) → g_G p l e rm_L_wells s m args below meth c D A 29 0 0 Q (wL y cI cJ C N S10 Qk) [(0, .ref (y 0)), (1, .ref (y 1)), (2, .ref (y 2)), (3, .ref (y 3)), (4, .ref (y 5)), (5, .ref (y 6)), (6, .ref (y 7)), (7, .ref (y 8)), (8, .ref (y 9)), (9, .ref (y 10)), (10, .ref (y 12)), (11, .long a11), (13, .long a12), (17, .int (nI i8)), (18, .int (nI (plN C i8)))] 249 [.long v62, .long a13] := by
        intro v62 ev62
        obtain ⟨x64, ex64⟩ : ∃ z : Int64, z = v62 := ⟨_, rfl⟩
        refine g_st (st' := [.long x64, .long a13]) (by rw [ex64]; first | done | rfl) ?_
        refine g_ladd X (v := a13 + x64) dL_wells_249 rfl ?_
        refine g_lstore X [(15, .long (a13 + x64)), (0, .ref (y 0)), (1, .ref (y 1)), (2, .ref (y 2)), (3, .ref (y 3)), (4, .ref (y 5)), (5, .ref (y 6)), (6, .ref (y 7)), (7, .ref (y 8)), (8, .ref (y 9)), (9, .ref (y 10)), (10, .ref (y 12)), (11, .long a11), (13, .long a12), (17, .int (nI i8)), (18, .int (nI (plN C i8)))] dL_wells_250 (Nat.le_of_ble_eq_true rfl) rfl ?_
        refine g_aload X 5 dL_wells_252 rfl ?_
        refine g_bipush X (v := nI 7) dL_wells_254 (by decide +kernel) ?_
        refine g_iload X 14 dL_wells_256 rfl ?_
        refine g_imul X (v := nI (7 * i8)) dL_wells_258 (pk_mul _ _) ?_
        refine g_iconst X (v := nI 1) dL_wells_259 (by decide +kernel) ?_
        refine g_iadd X (v := nI (7 * i8 + 1)) dL_wells_260 ((nI_add _ _).trans (congrArg nI (by omega))) ?_
        refine g_iald X 5 rfl (7 * i8 + 1) rfl (by omega) (Nat.le_of_ble_eq_true rfl) (v := C 3 i8) (eE_1 C N S10 i8) dL_wells_261 ?_
        refine g_if_ne X (tgt := 698) dL_wells_262 (by decide) (fun h65 => ?_) (fun h65 => ?_)
        · --
          refine g_iinc X [(17, .int (nI (i8 + 1))), (15, .long (a13 + x64)), (0, .ref (y 0)), (1, .ref (y 1)), (2, .ref (y 2)), (3, .ref (y 3)), (4, .ref (y 5)), (5, .ref (y 6)), (6, .ref (y 7)), (7, .ref (y 8)), (8, .ref (y 9)), (9, .ref (y 10)), (10, .ref (y 12)), (11, .long a11), (13, .long a12), (18, .int (nI (plN C i8)))] (q := 14) (v := nI (i8 + 1)) dL_wells_698 rfl ((congrArg (fun z => nI (i8) + z) (show Int32.ofInt 1 = nI 1 by decide +kernel)).trans ((nI_add _ _).trans (congrArg nI (by omega)))) (Nat.le_of_ble_eq_true rfl) rfl ?_
          refine g_goto X (tgt := 186) dL_wells_701 (by decide) ?_
          refine g_lv _ [2, 3, 4, 5, 6, 7, 8, 9, 10, 11, 12, 13, 14, 1, 0] rfl ?_
          exact ihL7 (i8 + 1) _ _ _ _ (by omega) (by show _ = dwS C N i8 (itr (dwS C N) S4 i8); rw [← eS10]; unfold dwS; rw [if_pos (dwS_n1 (N := N) h65)]) (by rw [brn_s, ← eS10, if_pos (dwS_n1 (N := N) h65)]; exact ea11) (by rw [brh_s, ← eS10, if_pos (dwS_n1 (N := N) h65)]; exact ea12) (by rw [ex64, ea13, eS10]; exact (wgt_l h3 (by omega) _).trans (by rw [ret_dw]; rfl))
        · --
          refine g_aload X 5 dL_wells_265 rfl ?_
          refine g_bipush X (v := nI 7) dL_wells_267 (by decide +kernel) ?_
          refine g_iload X 14 dL_wells_269 rfl ?_
          refine g_imul X (v := nI (7 * i8)) dL_wells_271 (pk_mul _ _) ?_
          refine g_iconst X (v := nI 5) dL_wells_272 (by decide +kernel) ?_
          refine g_iadd X (v := nI (7 * i8 + 5)) dL_wells_273 ((nI_add _ _).trans (congrArg nI (by omega))) ?_
          refine g_iald X 5 rfl (7 * i8 + 5) rfl (by omega) (Nat.le_of_ble_eq_true rfl) (v := (S10 6 i8).toInt32) (eE_5 C N S10 i8) dL_wells_274 ?_
          refine g_if_ne X (tgt := 698) dL_wells_275 (by decide) (fun h66 => ?_) (fun h66 => ?_)
          · --
            refine g_iinc X [(17, .int (nI (i8 + 1))), (15, .long (a13 + x64)), (0, .ref (y 0)), (1, .ref (y 1)), (2, .ref (y 2)), (3, .ref (y 3)), (4, .ref (y 5)), (5, .ref (y 6)), (6, .ref (y 7)), (7, .ref (y 8)), (8, .ref (y 9)), (9, .ref (y 10)), (10, .ref (y 12)), (11, .long a11), (13, .long a12), (18, .int (nI (plN C i8)))] (q := 14) (v := nI (i8 + 1)) dL_wells_698 rfl ((congrArg (fun z => nI (i8) + z) (show Int32.ofInt 1 = nI 1 by decide +kernel)).trans ((nI_add _ _).trans (congrArg nI (by omega)))) (Nat.le_of_ble_eq_true rfl) rfl ?_
            refine g_goto X (tgt := 186) dL_wells_701 (by decide) ?_
            refine g_lv _ [2, 3, 4, 5, 6, 7, 8, 9, 10, 11, 12, 13, 14, 1, 0] rfl ?_
            exact ihL7 (i8 + 1) _ _ _ _ (by omega) (by show _ = dwS C N i8 (itr (dwS C N) S4 i8); rw [← eS10]; unfold dwS; rw [if_pos (dwS_n2 (N := N) h66)]) (by rw [brn_s, ← eS10, if_pos (dwS_n2 (N := N) h66)]; exact ea11) (by rw [brh_s, ← eS10, if_pos (dwS_n2 (N := N) h66)]; exact ea12) (by rw [ex64, ea13, eS10]; exact (wgt_l h3 (by omega) _).trans (by rw [ret_dw]; rfl))
          · --
            refine g_aload X 5 dL_wells_278 rfl ?_
            refine g_bipush X (v := nI 7) dL_wells_280 (by decide +kernel) ?_
            refine g_iload X 14 dL_wells_282 rfl ?_
            refine g_imul X (v := nI (7 * i8)) dL_wells_284 (pk_mul _ _) ?_
            refine g_iconst X (v := nI 2) dL_wells_285 (by decide +kernel) ?_
            refine g_iadd X (v := nI (7 * i8 + 2)) dL_wells_286 ((nI_add _ _).trans (congrArg nI (by omega))) ?_
            refine g_iald X 5 rfl (7 * i8 + 2) rfl (by omega) (Nat.le_of_ble_eq_true rfl) (v := nI (muN C i8)) ((eE_2 C N S10 i8).trans hm.1) dL_wells_287 ?_
            refine g_bipush X (v := nI 100) dL_wells_288 (by decide +kernel) ?_
            refine g_aload X 5 dL_wells_290 rfl ?_
            refine g_bipush X (v := nI 7) dL_wells_292 (by decide +kernel) ?_
            refine g_iload X 14 dL_wells_294 rfl ?_
            refine g_imul X (v := nI (7 * i8)) dL_wells_296 (pk_mul _ _) ?_
            refine g_iconst X (v := nI 3) dL_wells_297 (by decide +kernel) ?_
            refine g_iadd X (v := nI (7 * i8 + 3)) dL_wells_298 ((nI_add _ _).trans (congrArg nI (by omega))) ?_
            refine g_iald X 5 rfl (7 * i8 + 3) rfl (by omega) (Nat.le_of_ble_eq_true rfl) (v := nI (scN S10 i8)) ((eE_3 C N S10 i8).trans (by rw [hs4.1]; exact lN_i _)) dL_wells_299 ?_
            refine g_isub X (v := nI (100 - (scN S10 i8))) dL_wells_300 (pk_sub (by omega)) ?_
            refine g_imul X (v := nI ((muN C i8) * (100 - (scN S10 i8)))) dL_wells_301 (pk_mul _ _) ?_
            refine g_bipush X (v := nI 100) dL_wells_302 (by decide +kernel) ?_
            refine g_idiv X (v := nI (muN C i8 * (100 - scN S10 i8) / 100)) dL_wells_304 (by decide +kernel) (pk_div hmc (by decide) (by decide)) ?_
            refine g_i2l X (v := wd C S10 i8) dL_wells_305 (nI_l (by omega)) ?_
            refine g_lstore X [(19, .long (wd C S10 i8)), (15, .long (a13 + x64)), (0, .ref (y 0)), (1, .ref (y 1)), (2, .ref (y 2)), (3, .ref (y 3)), (4, .ref (y 5)), (5, .ref (y 6)), (6, .ref (y 7)), (7, .ref (y 8)), (8, .ref (y 9)), (9, .ref (y 10)), (10, .ref (y 12)), (11, .long a11), (13, .long a12), (17, .int (nI i8)), (18, .int (nI (plN C i8)))] dL_wells_306 (Nat.le_of_ble_eq_true rfl) rfl ?_
            refine g_lload X 0 dL_wells_308 rfl ?_
            refine g_aload_n X 2 dL_wells_310 rfl rfl ?_
            refine g_iload X 16 dL_wells_311 rfl ?_
            refine g_lald X 0 rfl (plN C i8) rfl (by omega) (Nat.le_of_ble_eq_true rfl) (v := S10 0 (plN C i8)) rfl dL_wells_313 ?_
            refine g_ldc2 X kL_L_28 dL_wells_314 ?_
            refine g_ldiv X (v := (S10 0 (plN C i8)) / (10 : Int64)) dL_wells_317 (by decide +kernel) rfl ?_
            have J69 : ∀ (v68 : Int64), v68 = (if ((S10 0 (plN C i8)) / (10 : Int64)) ≤ (wd C S10 i8) then (S10 0 (plN C i8)) / (10 : Int64) else wd C S10 i8) → g_G p l e rm_L_wells s m args below meth c D A 29 0 0 Q (wL y cI cJ C N S10 Qk) [(0, .ref (y 0)), (1, .ref (y 1)), (2, .ref (y 2)), (3, .ref (y 3)), (4, .ref (y 5)), (5, .ref (y 6)), (6, .ref (y 7)), (7, .ref (y 8)), (8, .ref (y 9)), (9, .ref (y 10)), (10, .ref (y 12)), (11, .long a11), (13, .long a12), (15, .long (a13 + x64)), (17, .int (nI i8)), (18, .int (nI (plN C i8)))] 335 [.long v68] := by
              intro v68 ev68
              replace ev68 := ev68.trans (show _ = drW C S10 i8 from lsr_m _ _)
              refine g_lstore X [(19, .long v68), (0, .ref (y 0)), (1, .ref (y 1)), (2, .ref (y 2)), (3, .ref (y 3)), (4, .ref (y 5)), (5, .ref (y 6)), (6, .ref (y 7)), (7, .ref (y 8)), (8, .ref (y 9)), (9, .ref (y 10)), (10, .ref (y 12)), (11, .long a11), (13, .long a12), (15, .long (a13 + x64)), (17, .int (nI i8)), (18, .int (nI (plN C i8)))] dL_wells_335 (Nat.le_of_ble_eq_true rfl) rfl ?_
              refine g_iload X 16 dL_wells_337 rfl ?_
              refine g_aload_n X 1 dL_wells_339 rfl rfl ?_
              refine g_aload_n X 2 dL_wells_340 rfl rfl ?_
              refine g_callS X (As := [.int (nI (plN C i8)), .ref (y 0), .ref (y 1)]) (rest := []) (m_L_hot l D cI cJ cZ y C N S10 Qk (plN C i8) hpl ((hD.1.ok (by omega)).ne hpl)) kM_L_18 kT_yL_hot kZ_RL kC_yL_hot hV_L_hot rfl rfl rfl ⟨Nat.le_of_ble_eq_true rfl, Nat.le_of_ble_eq_true rfl⟩ ⟨Nat.le_of_ble_eq_true rfl, Nat.le_of_ble_eq_true rfl⟩ (Nat.le_of_ble_eq_true rfl) dL_wells_341 rfl [0, 1, 2, 3, 4, 5, 6, 7, 8, 9, 10, 11, 12] rfl rfl (g_kk1 (w2 := wL y cI cJ C N S10 Qk) ⟨[0, 1, 2, 3, 4, 5, 6, 7, 8, 9, 10, 11, 12], [], [0, 1, 2, 3, 4, 5, 6, 7, 8, 9, 10, 11, 12], [], rfl, rfl, rfl, rfl, by decide, rfl, rfl⟩ ?_)
              obtain ⟨x70, ex70⟩ : ∃ z : Int64, z = deg S10 (plN C i8) := ⟨_, rfl⟩
              refine g_st (st' := [.long x70]) (by rw [ex70]; first | done | rfl) ?_
              refine g_lstore X [(21, .long x70), (19, .long v68), (0, .ref (y 0)), (1, .ref (y 1)), (2, .ref (y 2)), (3, .ref (y 3)), (4, .ref (y 5)), (5, .ref (y 6)), (6, .ref (y 7)), (7, .ref (y 8)), (8, .ref (y 9)), (9, .ref (y 10)), (10, .ref (y 12)), (11, .long a11), (13, .long a12), (15, .long (a13 + x64)), (17, .int (nI i8)), (18, .int (nI (plN C i8)))] dL_wells_344 (Nat.le_of_ble_eq_true rfl) rfl ?_
              refine g_iload X 17 dL_wells_346 rfl ?_
              refine g_lload X 1 dL_wells_348 rfl ?_
              refine g_aload_n X 2 dL_wells_350 rfl rfl ?_
              refine g_aload_n X 3 dL_wells_351 rfl rfl ?_
              refine g_aload_n X 4 dL_wells_352 rfl rfl ?_
              obtain ⟨S71, eS71⟩ : ∃ z : St, z = giveS S10 (plN C i8) v68 := ⟨_, rfl⟩
              refine g_callS X (As := [.int (nI (plN C i8)), .long v68, .ref (y 0), .ref (y 1), .ref (y 2)]) (rest := []) (m_L_gives l D cI cJ cZ y C N S10 Qk (plN C i8) v68 hpl (hD.1.ok (by omega)) (by rw [ev68]; exact hdx)) kM_L_30 kT_yL_gives kZ_RL kC_yL_gives hV_L_gives rfl rfl rfl ⟨Nat.le_of_ble_eq_true rfl, Nat.le_of_ble_eq_true rfl⟩ ⟨Nat.le_of_ble_eq_true rfl, Nat.le_of_ble_eq_true rfl⟩ (Nat.le_of_ble_eq_true rfl) dL_wells_353 rfl [0, 1, 2, 3, 4, 5, 6, 7, 8, 9, 10, 11, 12] rfl rfl (g_kk1 (w2 := wL y cI cJ C N S71 Qk) (by rw [eS71]; exact ⟨[0, 1, 2, 3, 4, 5, 6, 7, 8, 9, 10, 11, 12], [], [0, 1, 2, 3, 4, 5, 6, 7, 8, 9, 10, 11, 12], [], rfl, rfl, rfl, rfl, by decide, rfl, rfl⟩) ?_)
              obtain ⟨x72, ex72⟩ : ∃ z : Int64, z = gone S10 (plN C i8) v68 := ⟨_, rfl⟩
              refine g_st (st' := [.long x72]) (by rw [ex72]; first | done | rfl) ?_
              refine g_lstore X [(23, .long x72), (21, .long x70), (19, .long v68), (0, .ref (y 0)), (1, .ref (y 1)), (2, .ref (y 2)), (3, .ref (y 3)), (4, .ref (y 5)), (5, .ref (y 6)), (6, .ref (y 7)), (7, .ref (y 8)), (8, .ref (y 9)), (9, .ref (y 10)), (10, .ref (y 12)), (11, .long a11), (13, .long a12), (15, .long (a13 + x64)), (17, .int (nI i8)), (18, .int (nI (plN C i8)))] dL_wells_356 (Nat.le_of_ble_eq_true rfl) rfl ?_
              refine g_aload X 8 dL_wells_358 rfl ?_
              refine g_iload X 17 dL_wells_360 rfl ?_
              refine g_dup2_11 X dL_wells_362 rfl rfl ?_
              refine g_lald X 6 rfl (i8) rfl (by omega) (Nat.le_of_ble_eq_true rfl) (v := S71 7 i8) rfl dL_wells_363 ?_
              refine g_lload X 0 dL_wells_364 rfl ?_
              refine g_ladd X (v := (S71 7 i8) + x72) dL_wells_366 rfl ?_
              obtain ⟨S73, eS73⟩ : ∃ z : St, z = u2 S71 7 i8 ((S71 7 i8) + x72) := ⟨_, rfl⟩
              refine g_last X (ws' := wL y cI cJ C N S73 Qk) 6 rfl (i8) rfl (by omega) (Nat.le_of_ble_eq_true rfl) dL_wells_367 (by rw [eS73]; first | done | (rfl)) ?_
              refine g_aload X 7 dL_wells_368 rfl ?_
              refine g_bipush X (v := nI 7) dL_wells_370 (by decide +kernel) ?_
              refine g_iload X 17 dL_wells_372 rfl ?_
              refine g_imul X (v := nI (7 * i8)) dL_wells_374 (pk_mul _ _) ?_
              refine g_bipush X (v := nI 6) dL_wells_375 (by decide +kernel) ?_
              refine g_iadd X (v := nI (7 * i8 + 6)) dL_wells_377 ((nI_add _ _).trans (congrArg nI (by omega))) ?_
              refine g_lload X 0 dL_wells_378 rfl ?_
              refine g_lconst X (v := 0) dL_wells_380 (by decide +kernel) ?_
              have J77 : ∀ (v76 : Int32), v76 = (if x72 ≤ (0 : Int64) then (S73 8 i8).toInt32 + 1 else if ¬ ((S73 8 i8).toInt32 + 1) = 0 then (S73 8 i8).toInt32 + 1 else ((S73 13 0).toInt32) + (nI 1)) → g_G p l e rm_L_wells s m args below meth c D A 29 0 0 Q (wL y cI cJ C N S73 Qk) [(0, .ref (y 0)), (1, .ref (y 1)), (2, .ref (y 2)), (3, .ref (y 3)), (4, .ref (y 5)), (5, .ref (y 6)), (6, .ref (y 7)), (7, .ref (y 8)), (8, .ref (y 9)), (9, .ref (y 10)), (10, .ref (y 12)), (11, .long a11), (13, .long a12), (15, .long (a13 + x64)), (17, .int (nI i8)), (18, .int (nI (plN C i8))), (19, .long v68), (21, .long x70)] 419 [.int v76, .int (nI (7 * i8 + 6)), .ref (y 5)] := by
                intro v76 ev76
                obtain ⟨S78, eS78⟩ : ∃ z : St, z = u2 S73 8 i8 (if x72 ≤ 0 then S73 8 i8 else if ¬ S73 8 i8 = -1 then S73 8 i8 else S73 13 0) := ⟨_, rfl⟩
                refine g_iast X (ws' := wL y cI cJ C N S78 Qk) 5 rfl (7 * i8 + 6) rfl (by omega) (Nat.le_of_ble_eq_true rfl) dL_wells_419 (by rw [eS78]; first | done | (rw [eE_w6 _ _ _ (k := i8) (by omega) (v := (if x72 ≤ 0 then S73 8 i8 else if ¬ S73 8 i8 = -1 then S73 8 i8 else S73 13 0)) ((e8_m (T := S73) (by rw [eS73]; exact h8)).trans ev76.symm)]; rfl)) ?_
                replace eS78 : S78 = dM1 S10 (plN C i8) i8 v68 := by rw [eS78]; (try rw [eS73]); (try rw [eS71]); first | done | (first | rfl | (rw [e{G}]; rfl))
                refine g_lload X 17 dL_wells_420 rfl ?_
                refine g_ldc2 X kL_L_34 dL_wells_422 ?_
                have J84 : ∀ (v83 : Int64), v83 = (if (101 : Int64) ≤ x70 then (v68 * ((if x70 ≤ (300 : Int64) then x70 - (100 : Int64) else (200 : Int64)))) / (400 : Int64) else (0 : Int64)) → g_G p l e rm_L_wells s m args below meth c D A 29 0 0 Q (wL y cI cJ C N S78 Qk) [(0, .ref (y 0)), (1, .ref (y 1)), (2, .ref (y 2)), (3, .ref (y 3)), (4, .ref (y 5)), (5, .ref (y 6)), (6, .ref (y 7)), (7, .ref (y 8)), (8, .ref (y 9)), (9, .ref (y 10)), (10, .ref (y 12)), (11, .long a11), (13, .long a12), (15, .long (a13 + x64)), (17, .int (nI i8)), (18, .int (nI (plN C i8))), (19, .long v68), (21, .long x70)] 461 [.long v83] := by
                  intro v83 ev83
                  replace ev83 := ev83.trans (show _ = stm v68 x70 from stl_m _ _)
                  refine g_lstore X [(25, .long v83), (0, .ref (y 0)), (1, .ref (y 1)), (2, .ref (y 2)), (3, .ref (y 3)), (4, .ref (y 5)), (5, .ref (y 6)), (6, .ref (y 7)), (7, .ref (y 8)), (8, .ref (y 9)), (9, .ref (y 10)), (10, .ref (y 12)), (11, .long a11), (13, .long a12), (15, .long (a13 + x64)), (17, .int (nI i8)), (18, .int (nI (plN C i8))), (19, .long v68), (21, .long x70)] dL_wells_461 (Nat.le_of_ble_eq_true rfl) rfl ?_
                  refine g_lload X 12 dL_wells_463 rfl ?_
                  refine g_lload X 17 dL_wells_465 rfl ?_
                  refine g_lload X 0 dL_wells_467 rfl ?_
                  refine g_lsub X (v := v68 - v83) dL_wells_469 rfl ?_
                  refine g_ladd X (v := a11 + (v68 - v83)) dL_wells_470 rfl ?_
                  refine g_lstore X [(11, .long (a11 + (v68 - v83))), (25, .long v83), (0, .ref (y 0)), (1, .ref (y 1)), (2, .ref (y 2)), (3, .ref (y 3)), (4, .ref (y 5)), (5, .ref (y 6)), (6, .ref (y 7)), (7, .ref (y 8)), (8, .ref (y 9)), (9, .ref (y 10)), (10, .ref (y 12)), (13, .long a12), (15, .long (a13 + x64)), (17, .int (nI i8)), (18, .int (nI (plN C i8))), (19, .long v68), (21, .long x70)] dL_wells_471 (Nat.le_of_ble_eq_true rfl) rfl ?_
                  refine g_lload X 13 dL_wells_473 rfl ?_
                  refine g_lload X 17 dL_wells_475 rfl ?_
                  refine g_lload X 1 dL_wells_477 rfl ?_
                  refine g_lsub X (v := v68 - v83) dL_wells_479 rfl ?_
                  refine g_lload X 18 dL_wells_480 rfl ?_
                  refine g_ldc2 X kL_L_40 dL_wells_482 ?_
                  have J87 : ∀ (v86 : Int64), v86 = (if x70 ≤ (100 : Int64) then x70 else (100 : Int64)) → g_G p l e rm_L_wells s m args below meth c D A 29 0 0 Q (wL y cI cJ C N S78 Qk) [(0, .ref (y 0)), (1, .ref (y 1)), (2, .ref (y 2)), (3, .ref (y 3)), (4, .ref (y 5)), (5, .ref (y 6)), (6, .ref (y 7)), (7, .ref (y 8)), (8, .ref (y 9)), (9, .ref (y 10)), (10, .ref (y 12)), (11, .long (a11 + (v68 - v83))), (15, .long (a13 + x64)), (17, .int (nI i8)), (18, .int (nI (plN C i8))), (19, .long v68), (21, .long x70), (25, .long v83)] 497 [.long v86, .long (v68 - v83), .long a12] := by
                    intro v86 ev86
                    obtain ⟨x88, ex88⟩ : ∃ z : Int64, z = v86 := ⟨_, rfl⟩
                    refine g_st (st' := [.long x88, .long (v68 - v83), .long a12]) (by rw [ex88]; first | done | rfl) ?_
                    refine g_lmul X (v := (v68 - v83) * x88) dL_wells_497 rfl ?_
                    refine g_ladd X (v := a12 + ((v68 - v83) * x88)) dL_wells_498 rfl ?_
                    refine g_lstore X [(13, .long (a12 + ((v68 - v83) * x88))), (0, .ref (y 0)), (1, .ref (y 1)), (2, .ref (y 2)), (3, .ref (y 3)), (4, .ref (y 5)), (5, .ref (y 6)), (6, .ref (y 7)), (7, .ref (y 8)), (8, .ref (y 9)), (9, .ref (y 10)), (10, .ref (y 12)), (11, .long (a11 + (v68 - v83))), (15, .long (a13 + x64)), (17, .int (nI i8)), (18, .int (nI (plN C i8))), (19, .long v68), (21, .long x70), (25, .long v83)] dL_wells_499 (Nat.le_of_ble_eq_true rfl) rfl ?_
                    refine g_aload X 10 dL_wells_501 rfl ?_
                    refine g_iconst X (v := nI 1) dL_wells_503 (by decide +kernel) ?_
                    refine g_dup2_11 X dL_wells_504 rfl rfl ?_
                    refine g_lald X 10 rfl (1) rfl (by omega) (Nat.le_of_ble_eq_true rfl) (v := S78 12 1) rfl dL_wells_505 ?_
                    refine g_lload X 18 dL_wells_506 rfl ?_
                    refine g_ladd X (v := (S78 12 1) + v83) dL_wells_508 rfl ?_
                    obtain ⟨S89, eS89⟩ : ∃ z : St, z = u2 S78 12 1 ((S78 12 1) + v83) := ⟨_, rfl⟩
                    refine g_last X (ws' := wL y cI cJ C N S89 Qk) 10 rfl (1) rfl (by omega) (Nat.le_of_ble_eq_true rfl) dL_wells_509 (by rw [eS89]; first | done | (rfl)) ?_
                    refine g_aload X 10 dL_wells_510 rfl ?_
                    refine g_bipush X (v := nI 6) dL_wells_512 (by decide +kernel) ?_
                    refine g_dup2_11 X dL_wells_514 rfl rfl ?_
                    refine g_lald X 10 rfl (6) rfl (by omega) (Nat.le_of_ble_eq_true rfl) (v := S78 12 6) (rfl.trans (by rw [eS89]; exact u2_ne _ _ _ (by decide))) dL_wells_515 ?_
                    refine g_lload X 18 dL_wells_516 rfl ?_
                    refine g_lload X 17 dL_wells_518 rfl ?_
                    refine g_ldc2 X kL_L_44 dL_wells_520 ?_
                    have J92 : ∀ (v91 : Int64), v91 = (if (60 : Int64) ≤ x70 then x70 - (60 : Int64) else (0 : Int64)) → g_G p l e rm_L_wells s m args below meth c D A 29 0 0 Q (wL y cI cJ C N S89 Qk) [(0, .ref (y 0)), (1, .ref (y 1)), (2, .ref (y 2)), (3, .ref (y 3)), (4, .ref (y 5)), (5, .ref (y 6)), (6, .ref (y 7)), (7, .ref (y 8)), (8, .ref (y 9)), (9, .ref (y 10)), (10, .ref (y 12)), (11, .long (a11 + (v68 - v83))), (13, .long (a12 + ((v68 - v83) * x88))), (15, .long (a13 + x64)), (17, .int (nI i8)), (18, .int (nI (plN C i8))), (19, .long v68), (21, .long x70)] 537 [.long v91, .long v83, .long (S78 12 6), .int (nI 6), .ref (y 10)] := by
                      intro v91 ev91
                      refine g_lmul X (v := v83 * v91) dL_wells_537 rfl ?_
                      refine g_ldc2 X kL_L_28 dL_wells_538 ?_
                      refine g_ldiv X (v := if x70 ≤ 60 then 0 else stm v68 x70 * (x70 - 60) / 10) dL_wells_541 (by decide +kernel) (by rw [ev83]; exact st6_m _ _) ?_
                      refine g_ladd X (v := (S78 12 6) + (if x70 ≤ 60 then 0 else stm v68 x70 * (x70 - 60) / 10)) dL_wells_542 rfl ?_
                      obtain ⟨S93, eS93⟩ : ∃ z : St, z = u2 S89 12 6 ((S78 12 6) + (if x70 ≤ 60 then 0 else stm v68 x70 * (x70 - 60) / 10)) := ⟨_, rfl⟩
                      refine g_last X (ws' := wL y cI cJ C N S93 Qk) 10 rfl (6) rfl (by omega) (Nat.le_of_ble_eq_true rfl) dL_wells_543 (by rw [eS93]; first | done | (rfl)) ?_
                      refine g_aload X 9 dL_wells_544 rfl ?_
                      refine g_bipush X (v := nI 7) dL_wells_546 (by decide +kernel) ?_
                      refine g_dup2_11 X dL_wells_548 rfl rfl ?_
                      refine g_lald X 10 rfl (7) rfl (by omega) (Nat.le_of_ble_eq_true rfl) (v := S78 12 7) (rfl.trans (by rw [eS93, eS89]; exact (u2_ne _ _ _ (by decide)).trans (u2_ne _ _ _ (by decide)))) dL_wells_549 ?_
                      refine g_lload X 16 dL_wells_550 rfl ?_
                      refine g_lload X 17 dL_wells_552 rfl ?_
                      refine g_lmul X (v := v68 * x70) dL_wells_554 rfl ?_
                      refine g_ladd X (v := (S78 12 7) + (v68 * x70)) dL_wells_555 rfl ?_
                      obtain ⟨S94, eS94⟩ : ∃ z : St, z = u2 S93 12 7 ((S78 12 7) + (v68 * x70)) := ⟨_, rfl⟩
                      refine g_last X (ws' := wL y cI cJ C N S94 Qk) 10 rfl (7) rfl (by omega) (Nat.le_of_ble_eq_true rfl) dL_wells_556 (by rw [eS94]; first | done | (rfl)) ?_
                      refine g_aload X 4 dL_wells_557 rfl ?_
                      refine g_bipush X (v := nI 7) dL_wells_559 (by decide +kernel) ?_
                      refine g_iload X 14 dL_wells_561 rfl ?_
                      refine g_imul X (v := nI (7 * i8)) dL_wells_563 (pk_mul _ _) ?_
                      refine g_iconst X (v := nI 4) dL_wells_564 (by decide +kernel) ?_
                      refine g_iadd X (v := nI (7 * i8 + 4)) dL_wells_565 ((nI_add _ _).trans (congrArg nI (by omega))) ?_
                      refine g_lload X 16 dL_wells_566 rfl ?_
                      refine g_l2i X (v := v68.toInt32) dL_wells_568 rfl ?_
                      obtain ⟨S95, eS95⟩ : ∃ z : St, z = u2 S94 5 i8 v68 := ⟨_, rfl⟩
                      refine g_iast X (ws' := wL y cI cJ C N S95 Qk) 5 rfl (7 * i8 + 4) rfl (by omega) (Nat.le_of_ble_eq_true rfl) dL_wells_569 (by rw [eS95]; first | done | (rw [eE_w4 _ _ _ i8 (v := v68) rfl]; rfl)) ?_
                      replace eS95 : S95 = dM2 S10 (plN C i8) i8 v68 x70 := by rw [eS95]; (try rw [eS94]); (try rw [eS93]); (try rw [eS89]); (try rw [eS78]); first | done | rfl
                      refine g_aload X 4 dL_wells_570 rfl ?_
                      refine g_bipush X (v := nI 7) dL_wells_572 (by decide +kernel) ?_
                      refine g_iload X 14 dL_wells_574 rfl ?_
                      refine g_imul X (v := nI (7 * i8)) dL_wells_576 (pk_mul _ _) ?_
                      refine g_iconst X (v := nI 3) dL_wells_577 (by decide +kernel) ?_
                      refine g_iadd X (v := nI (7 * i8 + 3)) dL_wells_578 ((nI_add _ _).trans (congrArg nI (by omega))) ?_
                      refine g_iald X 5 rfl (7 * i8 + 3) rfl (by omega) (Nat.le_of_ble_eq_true rfl) (v := (S95 4 i8).toInt32) (eE_3 C N S95 i8) dL_wells_579 ?_
                      refine g_iconst X (v := nI 1) dL_wells_580 (by decide +kernel) ?_
                      refine g_iadd X (v := ((S95 4 i8).toInt32) + (nI 1)) dL_wells_581 rfl ?_
                      refine g_lload X 16 dL_wells_582 rfl ?_
                      refine g_l2i X (v := v68.toInt32) dL_wells_584 rfl ?_
                      refine g_sipush X (v := nI 500) dL_wells_585 (by decide +kernel) ?_
                      refine g_idiv X (v := v68.toInt32 / (nI 500)) dL_wells_588 (by decide +kernel) rfl ?_
                      refine g_iadd X (v := (((S95 4 i8).toInt32) + (nI 1)) + (v68.toInt32 / (nI 500))) dL_wells_589 rfl ?_
                      refine g_istore X [(27, .int ((((S95 4 i8).toInt32) + (nI 1)) + (v68.toInt32 / (nI 500)))), (0, .ref (y 0)), (1, .ref (y 1)), (2, .ref (y 2)), (3, .ref (y 3)), (4, .ref (y 5)), (5, .ref (y 6)), (6, .ref (y 7)), (7, .ref (y 8)), (8, .ref (y 9)), (9, .ref (y 10)), (10, .ref (y 12)), (11, .long (a11 + (v68 - v83))), (13, .long (a12 + ((v68 - v83) * x88))), (15, .long (a13 + x64)), (17, .int (nI i8)), (18, .int (nI (plN C i8))), (19, .long v68), (21, .long x70)] dL_wells_590 (Nat.le_of_ble_eq_true rfl) rfl ?_
                      refine g_aload X 5 dL_wells_592 rfl ?_
                      refine g_bipush X (v := nI 7) dL_wells_594 (by decide +kernel) ?_
                      refine g_iload X 15 dL_wells_596 rfl ?_
                      refine g_imul X (v := nI (7 * i8)) dL_wells_598 (pk_mul _ _) ?_
                      refine g_iconst X (v := nI 3) dL_wells_599 (by decide +kernel) ?_
                      refine g_iadd X (v := nI (7 * i8 + 3)) dL_wells_600 ((nI_add _ _).trans (congrArg nI (by omega))) ?_
                      refine g_lload X 18 dL_wells_601 rfl ?_
                      refine g_ldc2 X kL_L_46 dL_wells_603 ?_
                      have J100 : ∀ (v99 : Int32), v99 = (if x70 < (161 : Int64) then (S95 4 i8).toInt32 else if ¬ v68 = (0 : Int64) then if ((((S95 4 i8).toInt32) + (nI 1)) + (v68.toInt32 / (nI 500))) ≤ (nI 100) then (((S95 4 i8).toInt32) + (nI 1)) + (v68.toInt32 / (nI 500)) else nI 100 else (S95 4 i8).toInt32) → g_G p l e rm_L_wells s m args below meth c D A 29 0 0 Q (wL y cI cJ C N S95 Qk) [(0, .ref (y 0)), (1, .ref (y 1)), (2, .ref (y 2)), (3, .ref (y 3)), (4, .ref (y 5)), (5, .ref (y 6)), (6, .ref (y 7)), (7, .ref (y 8)), (8, .ref (y 9)), (9, .ref (y 10)), (10, .ref (y 12)), (11, .long (a11 + (v68 - v83))), (13, .long (a12 + ((v68 - v83) * x88))), (15, .long (a13 + x64)), (17, .int (nI i8)), (18, .int (nI (plN C i8))), (19, .long v68)] 644 [.int v99, .int (nI (7 * i8 + 3)), .ref (y 5)] := by
                        intro v99 ev99
                        obtain ⟨S101, eS101⟩ : ∃ z : St, z = u2 S95 4 i8 (if x70 ≤ 160 then S95 4 i8 else if v68 ≤ 0 then S95 4 i8 else (if S95 4 i8 + 1 + v68 / 500 < 100 then S95 4 i8 + 1 + v68 / 500 else 100)) := ⟨_, rfl⟩
                        refine g_iast X (ws' := wL y cI cJ C N S101 Qk) 5 rfl (7 * i8 + 3) rfl (by omega) (Nat.le_of_ble_eq_true rfl) dL_wells_644 (by rw [eS101]; first | done | (rw [eE_w3 _ _ _ i8 (v := (if x70 ≤ 160 then S95 4 i8 else if v68 ≤ 0 then S95 4 i8 else (if S95 4 i8 + 1 + v68 / 500 < 100 then S95 4 i8 + 1 + v68 / 500 else 100))) ((sc_l (D := S95) (by rw [eS95]; exact d4_b hs4) (by rw [ev68]; exact ⟨hdo.1, hdo.2.2⟩)).trans ev99.symm)]; rfl)) ?_
                        replace eS101 : S101 = dM3 S10 (plN C i8) i8 v68 x70 := by rw [eS101]; (try rw [eS95]); first | done | exact dM3_l
                        refine g_iconst X (v := nI 0) dL_wells_645 (by decide +kernel) ?_
                        refine g_istore X [(28, .int (nI 0)), (0, .ref (y 0)), (1, .ref (y 1)), (2, .ref (y 2)), (3, .ref (y 3)), (4, .ref (y 5)), (5, .ref (y 6)), (6, .ref (y 7)), (7, .ref (y 8)), (8, .ref (y 9)), (9, .ref (y 10)), (10, .ref (y 12)), (11, .long (a11 + (v68 - v83))), (13, .long (a12 + ((v68 - v83) * x88))), (15, .long (a13 + x64)), (17, .int (nI i8)), (18, .int (nI (plN C i8))), (19, .long v68)] dL_wells_646 (Nat.le_of_ble_eq_true rfl) rfl ?_
                        have L102 : ∀ (n104 i103 : Nat) (S105 : St), i103 + n104 = (N 2) → S105 = itr (chgM C (plN C i8) i8 v68) S101 i103 → g_G p l e rm_L_wells s m args below meth c D A 29 0 0 Q (wL y cI cJ C N S105 Qk) [(0, .ref (y 0)), (1, .ref (y 1)), (2, .ref (y 2)), (3, .ref (y 3)), (4, .ref (y 5)), (5, .ref (y 6)), (6, .ref (y 7)), (7, .ref (y 8)), (8, .ref (y 9)), (9, .ref (y 10)), (10, .ref (y 12)), (11, .long (a11 + (v68 - v83))), (13, .long (a12 + ((v68 - v83) * x88))), (15, .long (a13 + x64)), (17, .int (nI i8)), (18, .int (nI (plN C i8))), (19, .long v68), (28, .int (nI i103))] 648 [] := by
                          intro n104
                          induction n104 with
                          | zero =>
                            intro i103 S105 hi106 eS105
                            obtain rfl : i103 = (N 2) := by omega
                            refine g_iload X 17 dL_wells_648 rfl ?_
                            refine g_aload X 10 dL_wells_650 rfl ?_
                            refine g_iconst X (v := nI 2) dL_wells_652 (by decide +kernel) ?_
                            refine g_iald X 12 rfl (2) rfl (by omega) (Nat.le_of_ble_eq_true rfl) (v := nI (N 2)) rfl dL_wells_653 ?_
                            refine g_icN_ge X (a := (N 2)) (b := N 2) (tgt := 698) (by omega) (by omega) dL_wells_654 (by decide) (fun h107 => ?_) (fun h107 => absurd h107 (by omega))
                            refine g_iinc X [(17, .int (nI (i8 + 1))), (0, .ref (y 0)), (1, .ref (y 1)), (2, .ref (y 2)), (3, .ref (y 3)), (4, .ref (y 5)), (5, .ref (y 6)), (6, .ref (y 7)), (7, .ref (y 8)), (8, .ref (y 9)), (9, .ref (y 10)), (10, .ref (y 12)), (11, .long (a11 + (v68 - v83))), (13, .long (a12 + ((v68 - v83) * x88))), (15, .long (a13 + x64)), (18, .int (nI (plN C i8))), (19, .long v68), (28, .int (nI (N 2)))] (q := 14) (v := nI (i8 + 1)) dL_wells_698 rfl ((congrArg (fun z => nI (i8) + z) (show Int32.ofInt 1 = nI 1 by decide +kernel)).trans ((nI_add _ _).trans (congrArg nI (by omega)))) (Nat.le_of_ble_eq_true rfl) rfl ?_
                            refine g_goto X (tgt := 186) dL_wells_701 (by decide) ?_
                            refine g_lv _ [1, 2, 3, 4, 5, 6, 7, 8, 9, 10, 11, 12, 13, 14, 0] rfl ?_
                            exact ihL7 (i8 + 1) _ _ _ _ (by omega) (by show _ = dwS C N i8 (itr (dwS C N) S4 i8); rw [← eS10]; unfold dwS; rw [if_neg (dwS_y h65 h66), eS105, eS101, ev68, ex70]; exact draw_m hC hpl) (by rw [brn_s, ← eS10, if_neg (dwS_y h65 h66), ea11, ev83, ev68, ex70]; rfl) (by rw [brh_s, ← eS10, if_neg (dwS_y h65 h66), ea12, ex88, hot_m, ev83, ev68, ex70]; rfl) (by rw [ex64, ea13, eS10]; exact (wgt_l h3 (by omega) _).trans (by rw [ret_dw]; rfl))
                          | succ n104 ihL102 =>
                            intro i103 S105 hi106 eS105
                            have hlti103 : i103 < (N 2) := by omega
                            have hs := (hC.sp hlti103).2
                            refine g_iload X 17 dL_wells_648 rfl ?_
                            refine g_aload X 10 dL_wells_650 rfl ?_
                            refine g_iconst X (v := nI 2) dL_wells_652 (by decide +kernel) ?_
                            refine g_iald X 12 rfl (2) rfl (by omega) (Nat.le_of_ble_eq_true rfl) (v := nI (N 2)) rfl dL_wells_653 ?_
                            refine g_icN_ge X (a := i103) (b := N 2) (tgt := 698) (by omega) (by omega) dL_wells_654 (by decide) (fun h108 => absurd h108 (by omega)) (fun h108 => ?_)
                            refine g_aload X 7 dL_wells_657 rfl ?_
                            refine g_bipush X (v := nI 8) dL_wells_659 (by decide +kernel) ?_
                            refine g_iload X 17 dL_wells_661 rfl ?_
                            refine g_imul X (v := nI (8 * i103)) dL_wells_663 (pk_mul _ _) ?_
                            refine g_iload X 14 dL_wells_664 rfl ?_
                            refine g_iadd X (v := nI (8 * i103 + i8)) dL_wells_666 ((nI_add _ _).trans (congrArg nI (by omega))) ?_
                            refine g_dup2_11 X dL_wells_667 rfl rfl ?_
                            refine g_lald X 8 rfl (8 * i103 + i8) rfl (by omega) (Nat.le_of_ble_eq_true rfl) (v := S105 11 (10 * i103 + i8)) (eA_r S105 i103 (n := i8) (by omega)) dL_wells_668 ?_
                            refine g_iload X 15 dL_wells_669 rfl ?_
                            refine g_aload X 6 dL_wells_671 rfl ?_
                            refine g_iconst X (v := nI 5) dL_wells_673 (by decide +kernel) ?_
                            refine g_iload X 17 dL_wells_674 rfl ?_
                            refine g_imul X (v := nI (5 * i103)) dL_wells_676 (pk_mul _ _) ?_
                            refine g_iald X 7 rfl (5 * i103) rfl (by omega) (Nat.le_of_ble_eq_true rfl) (v := nI (spN C i103)) ((eG_0 C S105 i103).trans (hC.sp (by omega)).1) dL_wells_677 ?_
                            refine g_callS X (As := [.int (nI (plN C i8)), .int (nI (spN C i103))]) (rest := [.long (S105 11 (10 * i103 + i8)), .int (nI (8 * i103 + i8)), .ref (y 8)]) (m_L_near l D cI cJ cZ (plN C i8) (spN C i103) hpl hs) kM_L_24 kT_yL_near kZ_RL kC_yL_near hV_L_near rfl rfl rfl ⟨Nat.le_of_ble_eq_true rfl, Nat.le_of_ble_eq_true rfl⟩ ⟨Nat.le_of_ble_eq_true rfl, Nat.le_of_ble_eq_true rfl⟩ (Nat.le_of_ble_eq_true rfl) dL_wells_678 rfl [] rfl rfl (g_kk1 (w2 := wL y cI cJ C N S105 Qk) ⟨[], [0, 1, 2, 3, 4, 5, 6, 7, 8, 9, 10, 11, 12], [0, 1, 2, 3, 4, 5, 6, 7, 8, 9, 10, 11, 12], ([0, 1, 2, 3, 4, 5, 6, 7, 8, 9, 10, 11, 12].filterMap fun i => (wL y cI cJ C N S105 Qk)[i]?), rfl, rfl, rfl, rfl, by decide, rfl, rfl⟩ ?_)
                            have J111 : ∀ (v110 : Int64), v110 = (if (nrB (plN C i8) (spN C i103)) = false then (0 : Int64) else v68) → g_G p l e rm_L_wells s m args below meth c D A 29 0 0 Q (wL y cI cJ C N S105 Qk) [(0, .ref (y 0)), (1, .ref (y 1)), (2, .ref (y 2)), (3, .ref (y 3)), (4, .ref (y 5)), (5, .ref (y 6)), (6, .ref (y 7)), (7, .ref (y 8)), (8, .ref (y 9)), (9, .ref (y 10)), (10, .ref (y 12)), (11, .long (a11 + (v68 - v83))), (13, .long (a12 + ((v68 - v83) * x88))), (15, .long (a13 + x64)), (17, .int (nI i8)), (18, .int (nI (plN C i8))), (19, .long v68), (28, .int (nI i103))] 690 [.long v110, .long (S105 11 (10 * i103 + i8)), .int (nI (8 * i103 + i8)), .ref (y 8)] := by
                              intro v110 ev110
                              refine g_ladd X (v := (S105 11 (10 * i103 + i8)) + v110) dL_wells_690 rfl ?_
                              obtain ⟨S112, eS112⟩ : ∃ z : St, z = u2 S105 11 (10 * i103 + i8) ((S105 11 (10 * i103 + i8)) + v110) := ⟨_, rfl⟩
                              refine g_last X (ws' := wL y cI cJ C N S112 Qk) 8 rfl (8 * i103 + i8) rfl (by omega) (Nat.le_of_ble_eq_true rfl) dL_wells_691 (by rw [eS112]; first | done | (rw [eA_w _ i103 (n := i8) (by omega)]; rfl)) ?_
                              refine g_iinc X [(28, .int (nI (i103 + 1))), (0, .ref (y 0)), (1, .ref (y 1)), (2, .ref (y 2)), (3, .ref (y 3)), (4, .ref (y 5)), (5, .ref (y 6)), (6, .ref (y 7)), (7, .ref (y 8)), (8, .ref (y 9)), (9, .ref (y 10)), (10, .ref (y 12)), (11, .long (a11 + (v68 - v83))), (13, .long (a12 + ((v68 - v83) * x88))), (15, .long (a13 + x64)), (17, .int (nI i8)), (18, .int (nI (plN C i8))), (19, .long v68)] (q := 17) (v := nI (i103 + 1)) dL_wells_692 rfl ((congrArg (fun z => nI (i103) + z) (show Int32.ofInt 1 = nI 1 by decide +kernel)).trans ((nI_add _ _).trans (congrArg nI (by omega)))) (Nat.le_of_ble_eq_true rfl) rfl ?_
                              refine g_goto X (tgt := 648) dL_wells_695 (by decide) ?_
                              refine g_lv _ [1, 2, 3, 4, 5, 6, 7, 8, 9, 10, 11, 12, 13, 14, 15, 16, 17, 0] rfl ?_
                              exact ihL102 (i103 + 1) _ (by omega) (by (try rw [eS112]); (try rw [ev110]); (try rw [eS105]); first | done | (rfl))
                            refine g_bI_eq X (tgt := 689) dL_wells_681 (by decide) (fun h109 => ?_) (fun h109 => ?_)
                            · --
                              refine g_lconst X (v := 0) dL_wells_689 (by decide +kernel) ?_
                              exact J111 _ (by rw [if_pos (c := (nrB (plN C i8) (spN C i103)) = false) h109])
                            · --
                              refine g_lload X 16 dL_wells_684 rfl ?_
                              refine g_goto X (tgt := 690) dL_wells_686 (by decide) ?_
                              exact J111 _ (by rw [if_neg (c := (nrB (plN C i8) (spN C i103)) = false) (by rw [h109]; decide)])
                        refine g_lv _ [1, 2, 3, 4, 5, 6, 7, 8, 9, 10, 11, 12, 13, 14, 15, 16, 17, 0] rfl ?_
                        exact L102 ((N 2)) 0 _ (by omega) (by first | rfl | ((try rw [eS101]); (try rw [ev99]); (try rw [ev91]); (try rw [ex88]); (try rw [ev86]); (try rw [ev83]); (try rw [ev76]); (try rw [ex72]); (try rw [ex70]); (try rw [ev68]); (try rw [ex64]); (try rw [ev62]); (try rw [ea13]); (try rw [ea12]); (try rw [ea11]); (try rw [eS10]); (try rw [eS4]); first | done | rfl))
                      refine g_lj_lt X (tgt := 617) (pc1 := 607) dL_wells_606 rfl dL_wells_607 (by decide) (fun h96 => ?_) (fun h96 => ?_)
                      · --
                        refine g_aload X 5 dL_wells_617 rfl ?_
                        refine g_bipush X (v := nI 7) dL_wells_619 (by decide +kernel) ?_
                        refine g_iload X 15 dL_wells_621 rfl ?_
                        refine g_imul X (v := nI (7 * i8)) dL_wells_623 (pk_mul _ _) ?_
                        refine g_iconst X (v := nI 3) dL_wells_624 (by decide +kernel) ?_
                        refine g_iadd X (v := nI (7 * i8 + 3)) dL_wells_625 ((nI_add _ _).trans (congrArg nI (by omega))) ?_
                        refine g_iald X 5 rfl (7 * i8 + 3) rfl (by omega) (Nat.le_of_ble_eq_true rfl) (v := (S95 4 i8).toInt32) (eE_3 C N S95 i8) dL_wells_626 ?_
                        refine g_goto X (tgt := 644) dL_wells_627 (by decide) ?_
                        refine g_lv _ [1, 2, 3, 4, 5, 6, 7, 8, 9, 10, 11, 12, 13, 14, 15, 16, 17] rfl ?_
                        exact J100 _ (by rw [if_pos (c := x70 < (161 : Int64)) h96])
                      · --
                        refine g_lload X 17 dL_wells_610 rfl ?_
                        refine g_lconst X (v := 0) dL_wells_612 (by decide +kernel) ?_
                        refine g_lj_ne X (tgt := 630) (pc1 := 614) dL_wells_613 rfl dL_wells_614 (by decide) (fun h97 => ?_) (fun h97 => ?_)
                        · --
                          refine g_iload X 0 dL_wells_630 rfl ?_
                          refine g_bipush X (v := nI 100) dL_wells_632 (by decide +kernel) ?_
                          refine g_icmp_le X (tgt := 642) dL_wells_634 (by decide) (fun h98 => ?_) (fun h98 => ?_)
                          · --
                            refine g_iload X 0 dL_wells_642 rfl ?_
                            refine g_lv _ [1, 2, 3, 4, 5, 6, 7, 8, 9, 10, 11, 12, 13, 14, 15, 16, 17] rfl ?_
                            exact J100 _ (by rw [if_neg (c := x70 < (161 : Int64)) h96, if_pos (c := ¬ v68 = (0 : Int64)) h97, if_pos (c := ((((S95 4 i8).toInt32) + (nI 1)) + (v68.toInt32 / (nI 500))) ≤ (nI 100)) h98])
                          · --
                            refine g_bipush X (v := nI 100) dL_wells_637 (by decide +kernel) ?_
                            refine g_goto X (tgt := 644) dL_wells_639 (by decide) ?_
                            refine g_lv _ [1, 2, 3, 4, 5, 6, 7, 8, 9, 10, 11, 12, 13, 14, 15, 16, 17] rfl ?_
                            exact J100 _ (by rw [if_neg (c := x70 < (161 : Int64)) h96, if_pos (c := ¬ v68 = (0 : Int64)) h97, if_neg (c := ((((S95 4 i8).toInt32) + (nI 1)) + (v68.toInt32 / (nI 500))) ≤ (nI 100)) h98])
                        · --
                          refine g_aload X 5 dL_wells_617 rfl ?_
                          refine g_bipush X (v := nI 7) dL_wells_619 (by decide +kernel) ?_
                          refine g_iload X 15 dL_wells_621 rfl ?_
                          refine g_imul X (v := nI (7 * i8)) dL_wells_623 (pk_mul _ _) ?_
                          refine g_iconst X (v := nI 3) dL_wells_624 (by decide +kernel) ?_
                          refine g_iadd X (v := nI (7 * i8 + 3)) dL_wells_625 ((nI_add _ _).trans (congrArg nI (by omega))) ?_
                          refine g_iald X 5 rfl (7 * i8 + 3) rfl (by omega) (Nat.le_of_ble_eq_true rfl) (v := (S95 4 i8).toInt32) (eE_3 C N S95 i8) dL_wells_626 ?_
                          refine g_goto X (tgt := 644) dL_wells_627 (by decide) ?_
                          refine g_lv _ [1, 2, 3, 4, 5, 6, 7, 8, 9, 10, 11, 12, 13, 14, 15, 16, 17] rfl ?_
                          exact J100 _ (by rw [if_neg (c := x70 < (161 : Int64)) h96, if_neg (c := ¬ v68 = (0 : Int64)) (fun z => z h97)])
                    refine g_lj_ge X (tgt := 531) (pc1 := 524) dL_wells_523 rfl dL_wells_524 (by decide) (fun h90 => ?_) (fun h90 => ?_)
                    · --
                      refine g_lload X 17 dL_wells_531 rfl ?_
                      refine g_ldc2 X kL_L_44 dL_wells_533 ?_
                      refine g_lsub X (v := x70 - (60 : Int64)) dL_wells_536 rfl ?_
                      refine g_lv _ [1, 2, 3, 4, 5, 6, 7, 8, 9, 10, 11, 12, 0, 13, 14, 15, 16, 17] rfl ?_
                      exact J92 _ (by rw [if_pos (c := (60 : Int64) ≤ x70) h90])
                    · --
                      refine g_lconst X (v := 0) dL_wells_527 (by decide +kernel) ?_
                      refine g_goto X (tgt := 537) dL_wells_528 (by decide) ?_
                      refine g_lv _ [1, 2, 3, 4, 5, 6, 7, 8, 9, 10, 11, 12, 0, 13, 14, 15, 16, 17] rfl ?_
                      exact J92 _ (by rw [if_neg (c := (60 : Int64) ≤ x70) h90])
                  refine g_lj_le X (tgt := 495) (pc1 := 486) dL_wells_485 rfl dL_wells_486 (by decide) (fun h85 => ?_) (fun h85 => ?_)
                  · --
                    refine g_lload X 18 dL_wells_495 rfl ?_
                    refine g_lv _ [2, 3, 4, 5, 6, 7, 8, 9, 10, 11, 12, 0, 14, 15, 16, 17, 18, 1] rfl ?_
                    exact J87 _ (by rw [if_pos (c := x70 ≤ (100 : Int64)) h85])
                  · --
                    refine g_ldc2 X kL_L_40 dL_wells_489 ?_
                    refine g_goto X (tgt := 497) dL_wells_492 (by decide) ?_
                    refine g_lv _ [2, 3, 4, 5, 6, 7, 8, 9, 10, 11, 12, 0, 14, 15, 16, 17, 18, 1] rfl ?_
                    exact J87 _ (by rw [if_neg (c := x70 ≤ (100 : Int64)) h85])
                refine g_lj_ge X (tgt := 433) (pc1 := 426) dL_wells_425 rfl dL_wells_426 (by decide) (fun h79 => ?_) (fun h79 => ?_)
                · --
                  refine g_lload X 16 dL_wells_433 rfl ?_
                  refine g_lload X 17 dL_wells_435 rfl ?_
                  refine g_ldc2 X kL_L_36 dL_wells_437 ?_
                  have J82 : ∀ (v81 : Int64), v81 = (if x70 ≤ (300 : Int64) then x70 - (100 : Int64) else (200 : Int64)) → g_G p l e rm_L_wells s m args below meth c D A 29 0 0 Q (wL y cI cJ C N S78 Qk) [(0, .ref (y 0)), (1, .ref (y 1)), (2, .ref (y 2)), (3, .ref (y 3)), (4, .ref (y 5)), (5, .ref (y 6)), (6, .ref (y 7)), (7, .ref (y 8)), (8, .ref (y 9)), (9, .ref (y 10)), (10, .ref (y 12)), (11, .long a11), (13, .long a12), (15, .long (a13 + x64)), (17, .int (nI i8)), (18, .int (nI (plN C i8))), (19, .long v68), (21, .long x70)] 456 [.long v81, .long v68] := by
                    intro v81 ev81
                    refine g_lmul X (v := v68 * v81) dL_wells_456 rfl ?_
                    refine g_ldc2 X kL_L_42 dL_wells_457 ?_
                    refine g_ldiv X (v := (v68 * v81) / (400 : Int64)) dL_wells_460 (by decide +kernel) rfl ?_
                    exact J84 _ (by (try rw [ev81]); rw [if_pos (c := (101 : Int64) ≤ x70) h79])
                  refine g_lj_le X (tgt := 450) (pc1 := 441) dL_wells_440 rfl dL_wells_441 (by decide) (fun h80 => ?_) (fun h80 => ?_)
                  · --
                    refine g_lload X 17 dL_wells_450 rfl ?_
                    refine g_ldc2 X kL_L_40 dL_wells_452 ?_
                    refine g_lsub X (v := x70 - (100 : Int64)) dL_wells_455 rfl ?_
                    exact J82 _ (by rw [if_pos (c := x70 ≤ (300 : Int64)) h80])
                  · --
                    refine g_ldc2 X kL_L_38 dL_wells_444 ?_
                    refine g_goto X (tgt := 456) dL_wells_447 (by decide) ?_
                    exact J82 _ (by rw [if_neg (c := x70 ≤ (300 : Int64)) h80])
                · --
                  refine g_lconst X (v := 0) dL_wells_429 (by decide +kernel) ?_
                  refine g_goto X (tgt := 461) dL_wells_430 (by decide) ?_
                  exact J84 _ (by rw [if_neg (c := (101 : Int64) ≤ x70) h79])
              refine g_lj_le X (tgt := 408) (pc1 := 382) dL_wells_381 rfl dL_wells_382 (by decide) (fun h74 => ?_) (fun h74 => ?_)
              · --
                refine g_aload X 7 dL_wells_408 rfl ?_
                refine g_bipush X (v := nI 7) dL_wells_410 (by decide +kernel) ?_
                refine g_iload X 17 dL_wells_412 rfl ?_
                refine g_imul X (v := nI (7 * i8)) dL_wells_414 (pk_mul _ _) ?_
                refine g_bipush X (v := nI 6) dL_wells_415 (by decide +kernel) ?_
                refine g_iadd X (v := nI (7 * i8 + 6)) dL_wells_417 ((nI_add _ _).trans (congrArg nI (by omega))) ?_
                refine g_iald X 5 rfl (7 * i8 + 6) rfl (by omega) (Nat.le_of_ble_eq_true rfl) (v := (S73 8 i8).toInt32 + 1) (eE_6 C N S73 (k := i8) (by omega)) dL_wells_418 ?_
                refine g_lv _ [3, 4, 5, 6, 7, 8, 9, 10, 11, 12, 13, 14, 15, 16, 17, 18, 2, 1] rfl ?_
                exact J77 _ (by rw [if_pos (c := x72 ≤ (0 : Int64)) h74])
              · --
                refine g_aload X 7 dL_wells_385 rfl ?_
                refine g_bipush X (v := nI 7) dL_wells_387 (by decide +kernel) ?_
                refine g_iload X 17 dL_wells_389 rfl ?_
                refine g_imul X (v := nI (7 * i8)) dL_wells_391 (pk_mul _ _) ?_
                refine g_bipush X (v := nI 6) dL_wells_392 (by decide +kernel) ?_
                refine g_iadd X (v := nI (7 * i8 + 6)) dL_wells_394 ((nI_add _ _).trans (congrArg nI (by omega))) ?_
                refine g_iald X 5 rfl (7 * i8 + 6) rfl (by omega) (Nat.le_of_ble_eq_true rfl) (v := (S73 8 i8).toInt32 + 1) (eE_6 C N S73 (k := i8) (by omega)) dL_wells_395 ?_
                refine g_if_ne X (tgt := 408) dL_wells_396 (by decide) (fun h75 => ?_) (fun h75 => ?_)
                · --
                  refine g_aload X 7 dL_wells_408 rfl ?_
                  refine g_bipush X (v := nI 7) dL_wells_410 (by decide +kernel) ?_
                  refine g_iload X 17 dL_wells_412 rfl ?_
                  refine g_imul X (v := nI (7 * i8)) dL_wells_414 (pk_mul _ _) ?_
                  refine g_bipush X (v := nI 6) dL_wells_415 (by decide +kernel) ?_
                  refine g_iadd X (v := nI (7 * i8 + 6)) dL_wells_417 ((nI_add _ _).trans (congrArg nI (by omega))) ?_
                  refine g_iald X 5 rfl (7 * i8 + 6) rfl (by omega) (Nat.le_of_ble_eq_true rfl) (v := (S73 8 i8).toInt32 + 1) (eE_6 C N S73 (k := i8) (by omega)) dL_wells_418 ?_
                  refine g_lv _ [3, 4, 5, 6, 7, 8, 9, 10, 11, 12, 13, 14, 15, 16, 17, 18, 2, 1] rfl ?_
                  exact J77 _ (by rw [if_neg (c := x72 ≤ (0 : Int64)) h74, if_pos (c := ¬ ((S73 8 i8).toInt32 + 1) = 0) h75])
                · --
                  refine g_aload X 13 dL_wells_399 rfl ?_
                  refine g_iconst X (v := nI 0) dL_wells_401 (by decide +kernel) ?_
                  refine g_iald X 12 rfl (0) rfl (by omega) (Nat.le_of_ble_eq_true rfl) (v := (S73 13 0).toInt32) rfl dL_wells_402 ?_
                  refine g_iconst X (v := nI 1) dL_wells_403 (by decide +kernel) ?_
                  refine g_iadd X (v := ((S73 13 0).toInt32) + (nI 1)) dL_wells_404 rfl ?_
                  refine g_goto X (tgt := 419) dL_wells_405 (by decide) ?_
                  refine g_lv _ [3, 4, 5, 6, 7, 8, 9, 10, 11, 12, 13, 14, 15, 16, 17, 18, 2, 1] rfl ?_
                  exact J77 _ (by rw [if_neg (c := x72 ≤ (0 : Int64)) h74, if_neg (c := ¬ ((S73 8 i8).toInt32 + 1) = 0) (fun z => z h75)])
            refine g_lj_ge X (tgt := 327) (pc1 := 319) dL_wells_318 rfl dL_wells_319 (by decide) (fun h67 => ?_) (fun h67 => ?_)
            · --
              refine g_aload_n X 2 dL_wells_327 rfl rfl ?_
              refine g_iload X 16 dL_wells_328 rfl ?_
              refine g_lald X 0 rfl (plN C i8) rfl (by omega) (Nat.le_of_ble_eq_true rfl) (v := S10 0 (plN C i8)) rfl dL_wells_330 ?_
              refine g_ldc2 X kL_L_28 dL_wells_331 ?_
              refine g_ldiv X (v := (S10 0 (plN C i8)) / (10 : Int64)) dL_wells_334 (by decide +kernel) rfl ?_
              refine g_lv _ [2, 3, 4, 5, 6, 7, 8, 9, 10, 11, 12, 13, 14, 1, 15, 16] rfl ?_
              exact J69 _ (by rw [if_pos (c := ((S10 0 (plN C i8)) / (10 : Int64)) ≤ (wd C S10 i8)) h67])
            · --
              refine g_lload X 0 dL_wells_322 rfl ?_
              refine g_goto X (tgt := 335) dL_wells_324 (by decide) ?_
              refine g_lv _ [2, 3, 4, 5, 6, 7, 8, 9, 10, 11, 12, 13, 14, 1, 15, 16] rfl ?_
              exact J69 _ (by rw [if_neg (c := ((S10 0 (plN C i8)) / (10 : Int64)) ≤ (wd C S10 i8)) h67])
      refine g_icmp_ne X (tgt := 248) dL_wells_218 (by decide) (fun h60 => ?_) (fun h60 => ?_)
      · --
        refine g_lconst X (v := 0) dL_wells_248 (by decide +kernel) ?_
        refine g_lv _ [1, 2, 3, 4, 5, 6, 7, 8, 9, 10, 11, 12, 13, 15, 0] rfl ?_
        exact J63 _ (by rw [if_pos (c := ¬ (C 3 i8) = (nI 1)) h60])
      · --
        refine g_aload X 5 dL_wells_221 rfl ?_
        refine g_bipush X (v := nI 7) dL_wells_223 (by decide +kernel) ?_
        refine g_iload X 15 dL_wells_225 rfl ?_
        refine g_imul X (v := nI (7 * i8)) dL_wells_227 (pk_mul _ _) ?_
        refine g_iconst X (v := nI 5) dL_wells_228 (by decide +kernel) ?_
        refine g_iadd X (v := nI (7 * i8 + 5)) dL_wells_229 ((nI_add _ _).trans (congrArg nI (by omega))) ?_
        refine g_iald X 5 rfl (7 * i8 + 5) rfl (by omega) (Nat.le_of_ble_eq_true rfl) (v := (S10 6 i8).toInt32) (eE_5 C N S10 i8) dL_wells_230 ?_
        refine g_if_ne X (tgt := 248) dL_wells_231 (by decide) (fun h61 => ?_) (fun h61 => ?_)
        · --
          refine g_lconst X (v := 0) dL_wells_248 (by decide +kernel) ?_
          refine g_lv _ [1, 2, 3, 4, 5, 6, 7, 8, 9, 10, 11, 12, 13, 15, 0] rfl ?_
          exact J63 _ (by rw [if_neg (c := ¬ (C 3 i8) = (nI 1)) (fun z => z h60), if_pos (c := ¬ ((S10 6 i8).toInt32) = 0) h61])
        · --
          refine g_aload X 5 dL_wells_234 rfl ?_
          refine g_bipush X (v := nI 7) dL_wells_236 (by decide +kernel) ?_
          refine g_iload X 15 dL_wells_238 rfl ?_
          refine g_imul X (v := nI (7 * i8)) dL_wells_240 (pk_mul _ _) ?_
          refine g_iconst X (v := nI 2) dL_wells_241 (by decide +kernel) ?_
          refine g_iadd X (v := nI (7 * i8 + 2)) dL_wells_242 ((nI_add _ _).trans (congrArg nI (by omega))) ?_
          refine g_iald X 5 rfl (7 * i8 + 2) rfl (by omega) (Nat.le_of_ble_eq_true rfl) (v := C 4 i8) (eE_2 C N S10 i8) dL_wells_243 ?_
          refine g_i2l X (v := (C 4 i8).toInt64) dL_wells_244 rfl ?_
          refine g_goto X (tgt := 249) dL_wells_245 (by decide) ?_
          refine g_lv _ [1, 2, 3, 4, 5, 6, 7, 8, 9, 10, 11, 12, 13, 15, 0] rfl ?_
          exact J63 _ (by rw [if_neg (c := ¬ (C 3 i8) = (nI 1)) (fun z => z h60), if_neg (c := ¬ ((S10 6 i8).toInt32) = 0) (fun z => z h61)])
  refine g_lv _ [4, 5, 6, 7, 8, 9, 10, 11, 12, 13, 14, 3, 2, 1, 0] rfl ?_
  exact L7 ((N 0)) 0 _ _ _ _ (by omega) (by first | rfl | ((try rw [eS4]); first | done | rfl)) (by first | rfl | ((try rw [eS4]); first | done | rfl)) (by first | rfl | ((try rw [eS4]); first | done | rfl)) (by first | rfl | ((try rw [eS4]); first | done | rfl))
set_option maxRecDepth 100000 in
set_option maxHeartbeats 4000000 in
theorem m_L_wells (l : Launch) (D : va_G) (cI cJ cZ : ClassId) (y : Nat → Nat) (C : Cf) (N : Nat → Nat) (S : St) (Qk : Nat → Int64) (k : Int) (hC : Cok C N) (h3 : R01 C N) (hW : Wk k S) (h0 : 0 ≤ k) (hk : k + 200000000 ≤ 1099511627776) (hE : Wel N S) (hn0 : N 0 ≤ 8) (hn1 : N 1 ≤ 3) (hn2 : N 2 ≤ 3) : g_Ct l D cI cJ cZ yL_wells cL_wells 29 none rm_L_wells 0 0 [.ref (y 0), .ref (y 1), .ref (y 2), .ref (y 3), .ref (y 5), .ref (y 6), .ref (y 7), .ref (y 8), .ref (y 9), .ref (y 10), .ref (y 12)] (wL y cI cJ C N S Qk) (g_eq none (wL y cI cJ C N (wlS C N S) Qk)) := by
  refine g_body RL [(0, .ref (y 0)), (1, .ref (y 1)), (2, .ref (y 2)), (3, .ref (y 3)), (4, .ref (y 5)), (5, .ref (y 6)), (6, .ref (y 7)), (7, .ref (y 8)), (8, .ref (y 9)), (9, .ref (y 10)), (10, .ref (y 12))] kH_L rfl (Nat.le_of_ble_eq_true rfl) rfl ?_
  intro p e s m args below meth c A X hr hlk hmn Q hQ
  have hN0 := hC.n0
  have hN1 := hC.n1
  have hN2 := hC.n2
  refine g_iconst X (v := nI 0) dL_wells_0 (by decide +kernel) ?_
  refine g_istore X [(11, .int (nI 0)), (0, .ref (y 0)), (1, .ref (y 1)), (2, .ref (y 2)), (3, .ref (y 3)), (4, .ref (y 5)), (5, .ref (y 6)), (6, .ref (y 7)), (7, .ref (y 8)), (8, .ref (y 9)), (9, .ref (y 10)), (10, .ref (y 12))] dL_wells_1 (Nat.le_of_ble_eq_true rfl) rfl ?_
  have L1 : ∀ (n3 i2 : Nat) (S4 : St), i2 + n3 = (N 0) → S4 = itr (shW C N) S i2 → g_G p l e rm_L_wells s m args below meth c D A 29 0 0 Q (wL y cI cJ C N S4 Qk) [(0, .ref (y 0)), (1, .ref (y 1)), (2, .ref (y 2)), (3, .ref (y 3)), (4, .ref (y 5)), (5, .ref (y 6)), (6, .ref (y 7)), (7, .ref (y 8)), (8, .ref (y 9)), (9, .ref (y 10)), (10, .ref (y 12)), (11, .int (nI i2))] 3 [] := by
    intro n3
    induction n3 with
    | zero =>
      intro i2 S4 hi5 eS4
      obtain rfl : i2 = (N 0) := by omega
      refine g_iload X 11 dL_wells_3 rfl ?_
      refine g_aload X 10 dL_wells_5 rfl ?_
      refine g_iconst X (v := nI 1) dL_wells_7 (by decide +kernel) ?_
      refine g_iald X 12 rfl (1) rfl (by omega) (Nat.le_of_ble_eq_true rfl) (v := nI (N 0)) rfl dL_wells_8 ?_
      refine g_icN_ge X (a := (N 0)) (b := N 0) (tgt := 174) (by omega) (by omega) dL_wells_9 (by decide) (fun h6 => ?_) (fun h6 => absurd h6 (by omega))
      exact n_L_wells_174 l D cI cJ cZ y C N S Qk k hC h3 hW h0 hk hE hn0 hn1 hn2 X hr hlk hQ S4 eS4
    | succ n3 ihL1 =>
      intro i2 S4 hi5 eS4
      have hlti2 : i2 < (N 0) := by omega
      have hpl := (hC.pl hlti2).2
      refine g_iload X 11 dL_wells_3 rfl ?_
      refine g_aload X 10 dL_wells_5 rfl ?_
      refine g_iconst X (v := nI 1) dL_wells_7 (by decide +kernel) ?_
      refine g_iald X 12 rfl (1) rfl (by omega) (Nat.le_of_ble_eq_true rfl) (v := nI (N 0)) rfl dL_wells_8 ?_
      refine g_icN_ge X (a := i2) (b := N 0) (tgt := 174) (by omega) (by omega) dL_wells_9 (by decide) (fun h113 => absurd h113 (by omega)) (fun h113 => ?_)
      refine g_aload X 4 dL_wells_12 rfl ?_
      refine g_bipush X (v := nI 7) dL_wells_14 (by decide +kernel) ?_
      refine g_iload X 11 dL_wells_16 rfl ?_
      refine g_imul X (v := nI (7 * i2)) dL_wells_18 (pk_mul _ _) ?_
      refine g_iconst X (v := nI 1) dL_wells_19 (by decide +kernel) ?_
      refine g_iadd X (v := nI (7 * i2 + 1)) dL_wells_20 ((nI_add _ _).trans (congrArg nI (by omega))) ?_
      refine g_iald X 5 rfl (7 * i2 + 1) rfl (by omega) (Nat.le_of_ble_eq_true rfl) (v := C 3 i2) (eE_1 C N S4 i2) dL_wells_21 ?_
      refine g_iconst X (v := nI 1) dL_wells_22 (by decide +kernel) ?_
      have J117 : ∀ (v116 : Bool), v116 = (if ¬ (C 3 i2) = (nI 1) then false else if (S4 3 (plN C i2)) ≤ (1999 : Int64) then false else true) → g_G p l e rm_L_wells s m args below meth c D A 29 0 0 Q (wL y cI cJ C N S4 Qk) [(0, .ref (y 0)), (1, .ref (y 1)), (2, .ref (y 2)), (3, .ref (y 3)), (4, .ref (y 5)), (5, .ref (y 6)), (6, .ref (y 7)), (7, .ref (y 8)), (8, .ref (y 9)), (9, .ref (y 10)), (10, .ref (y 12)), (11, .int (nI i2))] 48 [.int (bI v116)] := by
        intro v116 ev116
        refine g_istore X [(12, .int (bI v116)), (0, .ref (y 0)), (1, .ref (y 1)), (2, .ref (y 2)), (3, .ref (y 3)), (4, .ref (y 5)), (5, .ref (y 6)), (6, .ref (y 7)), (7, .ref (y 8)), (8, .ref (y 9)), (9, .ref (y 10)), (10, .ref (y 12)), (11, .int (nI i2))] dL_wells_48 (Nat.le_of_ble_eq_true rfl) rfl ?_
        refine g_iconst X (v := nI 0) dL_wells_50 (by decide +kernel) ?_
        refine g_istore X [(13, .int (nI 0)), (12, .int (bI v116)), (0, .ref (y 0)), (1, .ref (y 1)), (2, .ref (y 2)), (3, .ref (y 3)), (4, .ref (y 5)), (5, .ref (y 6)), (6, .ref (y 7)), (7, .ref (y 8)), (8, .ref (y 9)), (9, .ref (y 10)), (10, .ref (y 12)), (11, .int (nI i2))] dL_wells_51 (Nat.le_of_ble_eq_true rfl) rfl ?_
        have L118 : ∀ (n120 i119 : Nat) (a121 : Bool), i119 + n120 = (N 2) → a121 = shI C S4 i2 i119 → g_G p l e rm_L_wells s m args below meth c D A 29 0 0 Q (wL y cI cJ C N S4 Qk) [(0, .ref (y 0)), (1, .ref (y 1)), (2, .ref (y 2)), (3, .ref (y 3)), (4, .ref (y 5)), (5, .ref (y 6)), (6, .ref (y 7)), (7, .ref (y 8)), (8, .ref (y 9)), (9, .ref (y 10)), (10, .ref (y 12)), (11, .int (nI i2)), (12, .int (bI a121)), (13, .int (nI i119))] 53 [] := by
          intro n120
          induction n120 with
          | zero =>
            intro i119 a121 hi122 ea121
            obtain rfl : i119 = (N 2) := by omega
            refine g_iload X 13 dL_wells_53 rfl ?_
            refine g_aload X 10 dL_wells_55 rfl ?_
            refine g_iconst X (v := nI 2) dL_wells_57 (by decide +kernel) ?_
            refine g_iald X 12 rfl (2) rfl (by omega) (Nat.le_of_ble_eq_true rfl) (v := nI (N 2)) rfl dL_wells_58 ?_
            refine g_icN_ge X (a := (N 2)) (b := N 2) (tgt := 137) (by omega) (by omega) dL_wells_59 (by decide) (fun h123 => ?_) (fun h123 => absurd h123 (by omega))
            refine g_aload X 4 dL_wells_137 rfl ?_
            refine g_bipush X (v := nI 7) dL_wells_139 (by decide +kernel) ?_
            refine g_iload X 11 dL_wells_141 rfl ?_
            refine g_imul X (v := nI (7 * i2)) dL_wells_143 (pk_mul _ _) ?_
            refine g_iconst X (v := nI 5) dL_wells_144 (by decide +kernel) ?_
            refine g_iadd X (v := nI (7 * i2 + 5)) dL_wells_145 ((nI_add _ _).trans (congrArg nI (by omega))) ?_
            refine g_iload X 12 dL_wells_146 rfl ?_
            have J126 : ∀ (v125 : Bool), v125 = (if a121 = false then false else true) → g_G p l e rm_L_wells s m args below meth c D A 29 0 0 Q (wL y cI cJ C N S4 Qk) [(0, .ref (y 0)), (1, .ref (y 1)), (2, .ref (y 2)), (3, .ref (y 3)), (4, .ref (y 5)), (5, .ref (y 6)), (6, .ref (y 7)), (7, .ref (y 8)), (8, .ref (y 9)), (9, .ref (y 10)), (10, .ref (y 12)), (11, .int (nI i2))] 156 [.int (bI v125), .int (nI (7 * i2 + 5)), .ref (y 5)] := by
              intro v125 ev125
              obtain ⟨S127, eS127⟩ : ∃ z : St, z = u2 S4 6 i2 (bL v125) := ⟨_, rfl⟩
              refine g_iast X (ws' := wL y cI cJ C N S127 Qk) 5 rfl (7 * i2 + 5) rfl (by omega) (Nat.le_of_ble_eq_true rfl) dL_wells_156 (by rw [eS127]; first | done | (rw [eE_w5 _ _ _ i2 (v := bL v125) (bL_32 _)]; rfl)) ?_
              refine g_aload X 4 dL_wells_157 rfl ?_
              refine g_bipush X (v := nI 7) dL_wells_159 (by decide +kernel) ?_
              refine g_iload X 11 dL_wells_161 rfl ?_
              refine g_imul X (v := nI (7 * i2)) dL_wells_163 (pk_mul _ _) ?_
              refine g_iconst X (v := nI 4) dL_wells_164 (by decide +kernel) ?_
              refine g_iadd X (v := nI (7 * i2 + 4)) dL_wells_165 ((nI_add _ _).trans (congrArg nI (by omega))) ?_
              refine g_iconst X (v := nI 0) dL_wells_166 (by decide +kernel) ?_
              obtain ⟨S128, eS128⟩ : ∃ z : St, z = u2 S127 5 i2 0 := ⟨_, rfl⟩
              refine g_iast X (ws' := wL y cI cJ C N S128 Qk) 5 rfl (7 * i2 + 4) rfl (by omega) (Nat.le_of_ble_eq_true rfl) dL_wells_167 (by rw [eS128]; first | done | (rw [eE_w4 _ _ _ i2 (v := 0) (by decide)]; rfl)) ?_
              refine g_iinc X [(11, .int (nI (i2 + 1))), (0, .ref (y 0)), (1, .ref (y 1)), (2, .ref (y 2)), (3, .ref (y 3)), (4, .ref (y 5)), (5, .ref (y 6)), (6, .ref (y 7)), (7, .ref (y 8)), (8, .ref (y 9)), (9, .ref (y 10)), (10, .ref (y 12))] (q := 11) (v := nI (i2 + 1)) dL_wells_168 rfl ((congrArg (fun z => nI (i2) + z) (show Int32.ofInt 1 = nI 1 by decide +kernel)).trans ((nI_add _ _).trans (congrArg nI (by omega)))) (Nat.le_of_ble_eq_true rfl) rfl ?_
              refine g_goto X (tgt := 3) dL_wells_171 (by decide) ?_
              refine g_lv _ [1, 2, 3, 4, 5, 6, 7, 8, 9, 10, 11, 0] rfl ?_
              exact ihL1 (i2 + 1) _ (by omega) (by (try rw [eS128]); (try rw [eS127]); (try rw [ev125]); (try rw [ea121]); (try rw [ev116]); (try rw [eS4]); first | done | (exact shL_m hC h3 (by omega)))
            refine g_bI_eq X (tgt := 155) dL_wells_148 (by decide) (fun h124 => ?_) (fun h124 => ?_)
            · --
              refine g_iconst X (v := nI 0) dL_wells_155 (by decide +kernel) ?_
              refine g_lv _ [0, 1, 2, 3, 4, 5, 6, 7, 8, 9, 10, 11] rfl ?_
              exact J126 _ (by rw [if_pos (c := a121 = false) h124])
            · --
              refine g_iconst X (v := nI 1) dL_wells_151 (by decide +kernel) ?_
              refine g_goto X (tgt := 156) dL_wells_152 (by decide) ?_
              refine g_lv _ [0, 1, 2, 3, 4, 5, 6, 7, 8, 9, 10, 11] rfl ?_
              exact J126 _ (by rw [if_neg (c := a121 = false) (by rw [h124]; decide)])
          | succ n120 ihL118 =>
            intro i119 a121 hi122 ea121
            have hlti119 : i119 < (N 2) := by omega
            have hs := (hC.sp hlti119).2
            refine g_iload X 13 dL_wells_53 rfl ?_
            refine g_aload X 10 dL_wells_55 rfl ?_
            refine g_iconst X (v := nI 2) dL_wells_57 (by decide +kernel) ?_
            refine g_iald X 12 rfl (2) rfl (by omega) (Nat.le_of_ble_eq_true rfl) (v := nI (N 2)) rfl dL_wells_58 ?_
            refine g_icN_ge X (a := i119) (b := N 2) (tgt := 137) (by omega) (by omega) dL_wells_59 (by decide) (fun h129 => absurd h129 (by omega)) (fun h129 => ?_)
            refine g_iload X 12 dL_wells_62 rfl ?_
            have J135 : ∀ (v134 : Bool), v134 = (if a121 = true then true else if ¬ (C 3 i2) = 0 then false else if (nrB (plN C i2) (spN C i119)) = false then false else if ((C 9 i119).toInt64) ≤ (S4 0 (spN C i119)) then false else true) → g_G p l e rm_L_wells s m args below meth c D A 29 0 0 Q (wL y cI cJ C N S4 Qk) [(0, .ref (y 0)), (1, .ref (y 1)), (2, .ref (y 2)), (3, .ref (y 3)), (4, .ref (y 5)), (5, .ref (y 6)), (6, .ref (y 7)), (7, .ref (y 8)), (8, .ref (y 9)), (9, .ref (y 10)), (10, .ref (y 12)), (11, .int (nI i2)), (13, .int (nI i119))] 129 [.int (bI v134)] := by
              intro v134 ev134
              refine g_istore X [(12, .int (bI v134)), (0, .ref (y 0)), (1, .ref (y 1)), (2, .ref (y 2)), (3, .ref (y 3)), (4, .ref (y 5)), (5, .ref (y 6)), (6, .ref (y 7)), (7, .ref (y 8)), (8, .ref (y 9)), (9, .ref (y 10)), (10, .ref (y 12)), (11, .int (nI i2)), (13, .int (nI i119))] dL_wells_129 (Nat.le_of_ble_eq_true rfl) rfl ?_
              refine g_iinc X [(13, .int (nI (i119 + 1))), (12, .int (bI v134)), (0, .ref (y 0)), (1, .ref (y 1)), (2, .ref (y 2)), (3, .ref (y 3)), (4, .ref (y 5)), (5, .ref (y 6)), (6, .ref (y 7)), (7, .ref (y 8)), (8, .ref (y 9)), (9, .ref (y 10)), (10, .ref (y 12)), (11, .int (nI i2))] (q := 13) (v := nI (i119 + 1)) dL_wells_131 rfl ((congrArg (fun z => nI (i119) + z) (show Int32.ofInt 1 = nI 1 by decide +kernel)).trans ((nI_add _ _).trans (congrArg nI (by omega)))) (Nat.le_of_ble_eq_true rfl) rfl ?_
              refine g_goto X (tgt := 53) dL_wells_134 (by decide) ?_
              refine g_lv _ [2, 3, 4, 5, 6, 7, 8, 9, 10, 11, 12, 13, 1, 0] rfl ?_
              exact ihL118 (i119 + 1) _ (by omega) (by (try rw [ev134]); (try rw [ea121]); first | done | (rfl))
            refine g_bI_ne X (tgt := 124) dL_wells_64 (by decide) (fun h130 => ?_) (fun h130 => ?_)
            · --
              refine g_iconst X (v := nI 1) dL_wells_124 (by decide +kernel) ?_
              refine g_goto X (tgt := 129) dL_wells_125 (by decide) ?_
              refine g_lv _ [0, 1, 2, 3, 4, 5, 6, 7, 8, 9, 10, 11, 13] rfl ?_
              exact J135 _ (by rw [if_pos (c := a121 = true) h130])
            · --
              refine g_aload X 4 dL_wells_67 rfl ?_
              refine g_bipush X (v := nI 7) dL_wells_69 (by decide +kernel) ?_
              refine g_iload X 11 dL_wells_71 rfl ?_
              refine g_imul X (v := nI (7 * i2)) dL_wells_73 (pk_mul _ _) ?_
              refine g_iconst X (v := nI 1) dL_wells_74 (by decide +kernel) ?_
              refine g_iadd X (v := nI (7 * i2 + 1)) dL_wells_75 ((nI_add _ _).trans (congrArg nI (by omega))) ?_
              refine g_iald X 5 rfl (7 * i2 + 1) rfl (by omega) (Nat.le_of_ble_eq_true rfl) (v := C 3 i2) (eE_1 C N S4 i2) dL_wells_76 ?_
              refine g_if_ne X (tgt := 128) dL_wells_77 (by decide) (fun h131 => ?_) (fun h131 => ?_)
              · --
                refine g_iconst X (v := nI 0) dL_wells_128 (by decide +kernel) ?_
                refine g_lv _ [0, 1, 2, 3, 4, 5, 6, 7, 8, 9, 10, 11, 13] rfl ?_
                exact J135 _ (by rw [if_neg (c := a121 = true) (by rw [h130]; decide), if_pos (c := ¬ (C 3 i2) = 0) h131])
              · --
                refine g_aload X 4 dL_wells_80 rfl ?_
                refine g_bipush X (v := nI 7) dL_wells_82 (by decide +kernel) ?_
                refine g_iload X 11 dL_wells_84 rfl ?_
                refine g_imul X (v := nI (7 * i2)) dL_wells_86 (pk_mul _ _) ?_
                refine g_iald X 5 rfl (7 * i2) rfl (by omega) (Nat.le_of_ble_eq_true rfl) (v := nI (plN C i2)) ((eE_0 C N S4 i2).trans (hC.pl (by omega)).1) dL_wells_87 ?_
                refine g_aload X 6 dL_wells_88 rfl ?_
                refine g_iconst X (v := nI 5) dL_wells_90 (by decide +kernel) ?_
                refine g_iload X 13 dL_wells_91 rfl ?_
                refine g_imul X (v := nI (5 * i119)) dL_wells_93 (pk_mul _ _) ?_
                refine g_iald X 7 rfl (5 * i119) rfl (by omega) (Nat.le_of_ble_eq_true rfl) (v := nI (spN C i119)) ((eG_0 C S4 i119).trans (hC.sp (by omega)).1) dL_wells_94 ?_
                refine g_callS X (As := [.int (nI (plN C i2)), .int (nI (spN C i119))]) (rest := []) (m_L_near l D cI cJ cZ (plN C i2) (spN C i119) hpl hs) kM_L_24 kT_yL_near kZ_RL kC_yL_near hV_L_near rfl rfl rfl ⟨Nat.le_of_ble_eq_true rfl, Nat.le_of_ble_eq_true rfl⟩ ⟨Nat.le_of_ble_eq_true rfl, Nat.le_of_ble_eq_true rfl⟩ (Nat.le_of_ble_eq_true rfl) dL_wells_95 rfl [] rfl rfl (g_kk1 (w2 := wL y cI cJ C N S4 Qk) ⟨[], [0, 1, 2, 3, 4, 5, 6, 7, 8, 9, 10, 11, 12], [0, 1, 2, 3, 4, 5, 6, 7, 8, 9, 10, 11, 12], ([0, 1, 2, 3, 4, 5, 6, 7, 8, 9, 10, 11, 12].filterMap fun i => (wL y cI cJ C N S4 Qk)[i]?), rfl, rfl, rfl, rfl, by decide, rfl, rfl⟩ ?_)
                refine g_bI_eq X (tgt := 128) dL_wells_98 (by decide) (fun h132 => ?_) (fun h132 => ?_)
                · --
                  refine g_iconst X (v := nI 0) dL_wells_128 (by decide +kernel) ?_
                  refine g_lv _ [0, 1, 2, 3, 4, 5, 6, 7, 8, 9, 10, 11, 13] rfl ?_
                  exact J135 _ (by rw [if_neg (c := a121 = true) (by rw [h130]; decide), if_neg (c := ¬ (C 3 i2) = 0) (fun z => z h131), if_pos (c := (nrB (plN C i2) (spN C i119)) = false) h132])
                · --
                  refine g_aload_n X 0 dL_wells_101 rfl rfl ?_
                  refine g_aload X 6 dL_wells_102 rfl ?_
                  refine g_iconst X (v := nI 5) dL_wells_104 (by decide +kernel) ?_
                  refine g_iload X 13 dL_wells_105 rfl ?_
                  refine g_imul X (v := nI (5 * i119)) dL_wells_107 (pk_mul _ _) ?_
                  refine g_iald X 7 rfl (5 * i119) rfl (by omega) (Nat.le_of_ble_eq_true rfl) (v := nI (spN C i119)) ((eG_0 C S4 i119).trans (hC.sp (by omega)).1) dL_wells_108 ?_
                  refine g_lald X 0 rfl (spN C i119) rfl (by omega) (Nat.le_of_ble_eq_true rfl) (v := S4 0 (spN C i119)) rfl dL_wells_109 ?_
                  refine g_aload X 6 dL_wells_110 rfl ?_
                  refine g_iconst X (v := nI 5) dL_wells_112 (by decide +kernel) ?_
                  refine g_iload X 13 dL_wells_113 rfl ?_
                  refine g_imul X (v := nI (5 * i119)) dL_wells_115 (pk_mul _ _) ?_
                  refine g_iconst X (v := nI 2) dL_wells_116 (by decide +kernel) ?_
                  refine g_iadd X (v := nI (5 * i119 + 2)) dL_wells_117 ((nI_add _ _).trans (congrArg nI (by omega))) ?_
                  refine g_iald X 7 rfl (5 * i119 + 2) rfl (by omega) (Nat.le_of_ble_eq_true rfl) (v := C 9 i119) (eG_2 C S4 i119) dL_wells_118 ?_
                  refine g_i2l X (v := (C 9 i119).toInt64) dL_wells_119 rfl ?_
                  refine g_lj_ge X (tgt := 128) (pc1 := 121) dL_wells_120 rfl dL_wells_121 (by decide) (fun h133 => ?_) (fun h133 => ?_)
                  · --
                    refine g_iconst X (v := nI 0) dL_wells_128 (by decide +kernel) ?_
                    refine g_lv _ [0, 1, 2, 3, 4, 5, 6, 7, 8, 9, 10, 11, 13] rfl ?_
                    exact J135 _ (by rw [if_neg (c := a121 = true) (by rw [h130]; decide), if_neg (c := ¬ (C 3 i2) = 0) (fun z => z h131), if_neg (c := (nrB (plN C i2) (spN C i119)) = false) (by rw [h132]; decide), if_pos (c := ((C 9 i119).toInt64) ≤ (S4 0 (spN C i119))) h133])
                  · --
                    refine g_iconst X (v := nI 1) dL_wells_124 (by decide +kernel) ?_
                    refine g_goto X (tgt := 129) dL_wells_125 (by decide) ?_
                    refine g_lv _ [0, 1, 2, 3, 4, 5, 6, 7, 8, 9, 10, 11, 13] rfl ?_
                    exact J135 _ (by rw [if_neg (c := a121 = true) (by rw [h130]; decide), if_neg (c := ¬ (C 3 i2) = 0) (fun z => z h131), if_neg (c := (nrB (plN C i2) (spN C i119)) = false) (by rw [h132]; decide), if_neg (c := ((C 9 i119).toInt64) ≤ (S4 0 (spN C i119))) h133])
        refine g_lv _ [2, 3, 4, 5, 6, 7, 8, 9, 10, 11, 12, 13, 1, 0] rfl ?_
        exact L118 ((N 2)) 0 _ (by omega) (by first | rfl | ((try rw [ev116]); (try rw [eS4]); first | done | rfl))
      refine g_icmp_ne X (tgt := 47) dL_wells_23 (by decide) (fun h114 => ?_) (fun h114 => ?_)
      · --
        refine g_iconst X (v := nI 0) dL_wells_47 (by decide +kernel) ?_
        exact J117 _ (by rw [if_pos (c := ¬ (C 3 i2) = (nI 1)) h114])
      · --
        refine g_aload_n X 3 dL_wells_26 rfl rfl ?_
        refine g_aload X 4 dL_wells_27 rfl ?_
        refine g_bipush X (v := nI 7) dL_wells_29 (by decide +kernel) ?_
        refine g_iload X 11 dL_wells_31 rfl ?_
        refine g_imul X (v := nI (7 * i2)) dL_wells_33 (pk_mul _ _) ?_
        refine g_iald X 5 rfl (7 * i2) rfl (by omega) (Nat.le_of_ble_eq_true rfl) (v := nI (plN C i2)) ((eE_0 C N S4 i2).trans (hC.pl (by omega)).1) dL_wells_34 ?_
        refine g_lald X 3 rfl (plN C i2) rfl (by omega) (Nat.le_of_ble_eq_true rfl) (v := S4 3 (plN C i2)) rfl dL_wells_35 ?_
        refine g_ldc2 X kL_L_22 dL_wells_36 ?_
        refine g_lj_le X (tgt := 47) (pc1 := 40) dL_wells_39 rfl dL_wells_40 (by decide) (fun h115 => ?_) (fun h115 => ?_)
        · --
          refine g_iconst X (v := nI 0) dL_wells_47 (by decide +kernel) ?_
          exact J117 _ (by rw [if_neg (c := ¬ (C 3 i2) = (nI 1)) (fun z => z h114), if_pos (c := (S4 3 (plN C i2)) ≤ (1999 : Int64)) h115])
        · --
          refine g_iconst X (v := nI 1) dL_wells_43 (by decide +kernel) ?_
          refine g_goto X (tgt := 48) dL_wells_44 (by decide) ?_
          exact J117 _ (by rw [if_neg (c := ¬ (C 3 i2) = (nI 1)) (fun z => z h114), if_neg (c := (S4 3 (plN C i2)) ≤ (1999 : Int64)) h115])
  refine g_lv _ [1, 2, 3, 4, 5, 6, 7, 8, 9, 10, 11, 0] rfl ?_
  exact L1 ((N 0)) 0 _ (by omega) (by first | rfl | (first | done | rfl))
