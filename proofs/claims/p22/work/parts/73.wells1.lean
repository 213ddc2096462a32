set_option maxRecDepth 100000 in
set_option maxHeartbeats 4000000 in
theorem n_L_wells_955 (l : Launch) (D : va_G) (cI cJ cZ : ClassId) (y : Nat → Nat) (C : Cf) (N : Nat → Nat) (S : St) (Qk : Nat → Int64) (k : Int) (hC : Cok C N) (h3 : R01 C N) (hW : Wk k S) (h0 : 0 ≤ k) (hk : k + 200000000 ≤ 1099511627776) (hE : Wel N S) (hn0 : N 0 ≤ 8) (hn1 : N 1 ≤ 3) (hn2 : N 2 ≤ 3) {p : Program} {e : Env} {s : State} {m : MethodId} {args : Array Value} {below : List Frame} {meth : Method} {c : Code} {A : Nat → Prop} (X : g_Cx p s m args c D A 29 cL_wells RL cI cJ cZ) (hr : meth.sig.returnType = none) (hlk : meth.locks = false) {Q : State → Prop} (hQ : MQ below (g_Post D A (g_eq none (wL y cI cJ C N (wlS C N S) Qk))) args s 0 0 A = Q) (S4 : St) (eS4 : S4 = itr (shW C N) S (N 0)) (S10 : St) (eS10 : S10 = itr (dwS C N) S4 (N 0)) (a11 : Int64) (ea11 : a11 = brn C N S4 (N 0)) (a12 : Int64) (ea12 : a12 = brh C N S4 (N 0)) (a13 : Int64) (ea13 : a13 = wgt C S4 (N 0)) (v17 : Int64) (ev17 : v17 = (if ¬ a11 = (0 : Int64) then a12 / a11 else (0 : Int64))) (S22 : St) (eS22 : S22 = u2 S10 12 5 (selP C a11 a12 (S10 12 5) (N 1)).2) (a23 : Int64) (ea23 : a23 = (selP C a11 a12 (S10 12 5) (N 1)).1) (S26 : St) (eS26 : S26 = u2 S22 12 2 ((S22 12 2) + a11)) (S29 : St) (eS29 : S29 = gdN C a11 a13 S26 (N 0) (N 0 - 0)) : g_G p l e rm_L_wells s m args below meth c D A 29 0 0 Q (wL y cI cJ C N S29 Qk) [(0, .ref (y 0)), (1, .ref (y 1)), (3, .ref (y 3)), (4, .ref (y 5)), (9, .ref (y 10)), (10, .ref (y 12)), (11, .long a11), (15, .long a13), (17, .long a23), (19, .int (dI 0))] 955 [] := by
  have hN0 := hC.n0
  have hN1 := hC.n1
  have hN2 := hC.n2
  have hN0 := hC.n0
  have hN1 := hC.n1
  have hN2 := hC.n2
  obtain ⟨hc36, hc3, hc5, hcw⟩ := wl_C (N := N) eS4 eS10 eS22
  have hb2 : 0 ≤ (a11).toInt ∧ (a11).toInt ≤ 10000 := by have := brn_ok hC (sh_ok (C := C) hW hE (N 0)).1 (by omega) (sh_ok (C := C) hW hE (N 0)).2 (N 0) (Nat.le_refl _); rw [ea11, eS4]; omega
  replace eS29 : S29 = u2 (itr (gb1 C a11 a13) S22 (N 0)) 12 2 (itr (gb1 C a11 a13) S22 (N 0) 12 2 + lft C a11 a13 S22 (N 0)) := by rw [eS29, Nat.sub_zero, eS26]; exact gd_eq (fun j hj hr => hc5 j hj (ret_nz hr))
  have hV5 := wl_V (N := N) hC hb2.1 hb2.2 hc5 eS29
  refine g_iconst X (v := nI 0) dL_wells_955 (by decide +kernel) ?_
  refine g_istore X [(19, .int (nI 0)), (0, .ref (y 0)), (1, .ref (y 1)), (3, .ref (y 3)), (4, .ref (y 5)), (9, .ref (y 10)), (10, .ref (y 12)), (11, .long a11), (15, .long a13), (17, .long a23)] dL_wells_956 (Nat.le_of_ble_eq_true rfl) rfl ?_
  have L31 : ∀ (n33 i32 : Nat) (S34 : St), i32 + n33 = (N 0) → S34 = itr (gb2 C a23) S29 i32 → g_G p l e rm_L_wells s m args below meth c D A 29 0 0 Q (wL y cI cJ C N S34 Qk) [(0, .ref (y 0)), (1, .ref (y 1)), (3, .ref (y 3)), (4, .ref (y 5)), (10, .ref (y 12)), (17, .long a23), (19, .int (nI i32))] 958 [] := by
    intro n33
    induction n33 with
    | zero =>
      intro i32 S34 hi35 eS34
      obtain rfl : i32 = (N 0) := by omega
      refine g_iload X 6 dL_wells_958 rfl ?_
      refine g_aload X 4 dL_wells_960 rfl ?_
      refine g_iconst X (v := nI 1) dL_wells_962 (by decide +kernel) ?_
      refine g_iald X 12 rfl (1) rfl (by omega) (Nat.le_of_ble_eq_true rfl) (v := nI (N 0)) rfl dL_wells_963 ?_
      refine g_icN_ge X (a := (N 0)) (b := N 0) (tgt := 1062) (by omega) (by omega) dL_wells_964 (by decide) (fun h36 => ?_) (fun h36 => absurd h36 (by omega))
      refine g_vret X hr hlk hQ dL_wells_1062 ?_
      show g_eq _ _ _ _
      refine ⟨rfl, congrArg (fun z => wL y cI cJ C N z Qk) ?_⟩
      exact wl_end eS4 eS10 ea11 ea12 ea13 eS22 ea23 eS29 eS34
    | succ n33 ihL31 =>
      intro i32 S34 hi35 eS34
      have hlti32 : i32 < (N 0) := by omega
      have hpl := (hC.pl hlti32).2
      have h5v := hV5 i32 hlti32
      have hTc : S34 5 = S29 5 ∧ S34 6 = S29 6 := by rw [eS34]; exact ⟨itr_c (fun _ _ => gb2_c (by decide) (by decide) (by decide)) _ _, itr_c (fun _ _ => gb2_c (by decide) (by decide) (by decide)) _ _⟩
      refine g_iload X 6 dL_wells_958 rfl ?_
      refine g_aload X 4 dL_wells_960 rfl ?_
      refine g_iconst X (v := nI 1) dL_wells_962 (by decide +kernel) ?_
      refine g_iald X 12 rfl (1) rfl (by omega) (Nat.le_of_ble_eq_true rfl) (v := nI (N 0)) rfl dL_wells_963 ?_
      refine g_icN_ge X (a := i32) (b := N 0) (tgt := 1062) (by omega) (by omega) dL_wells_964 (by decide) (fun h37 => absurd h37 (by omega)) (fun h37 => ?_)
      refine g_aload X 3 dL_wells_967 rfl ?_
      refine g_bipush X (v := nI 7) dL_wells_969 (by decide +kernel) ?_
      refine g_iload X 6 dL_wells_971 rfl ?_
      refine g_imul X (v := nI (7 * i32)) dL_wells_973 (pk_mul _ _) ?_
      refine g_iconst X (v := nI 1) dL_wells_974 (by decide +kernel) ?_
      refine g_iadd X (v := nI (7 * i32 + 1)) dL_wells_975 ((nI_add _ _).trans (congrArg nI (by omega))) ?_
      refine g_iald X 5 rfl (7 * i32 + 1) rfl (by omega) (Nat.le_of_ble_eq_true rfl) (v := C 3 i32) (lrE_1 C N S34 i32) dL_wells_976 ?_
      refine g_iconst X (v := nI 1) dL_wells_977 (by decide +kernel) ?_
      refine g_icmp_ne X (tgt := 1056) dL_wells_978 (by decide) (fun h38 => ?_) (fun h38 => ?_)
      · --
        refine g_iinc X [(19, .int (nI (i32 + 1))), (0, .ref (y 0)), (1, .ref (y 1)), (3, .ref (y 3)), (4, .ref (y 5)), (10, .ref (y 12)), (17, .long a23)] (q := 6) (v := nI (i32 + 1)) dL_wells_1056 rfl ((congrArg (fun z => nI (i32) + z) (show Int32.ofInt 1 = nI 1 by decide +kernel)).trans ((nI_add _ _).trans (congrArg nI (by omega)))) (Nat.le_of_ble_eq_true rfl) rfl ?_
        refine g_goto X (tgt := 958) dL_wells_1059 (by decide) ?_
        refine g_lv _ [1, 2, 3, 4, 5, 6, 0] rfl ?_
        exact ihL31 (i32 + 1) _ (by omega) (by show _ = gb2 C _ i32 (itr _ _ i32); rw [← eS34]; unfold gb2; rw [if_pos (ret_n h38 (h3 i32 hlti32))])
      · --
        have hr5 : (S34 5 i32).toInt32.toInt64 = S34 5 i32 := by rw [hTc.1]; have hq := h5v.1 (by assumption); exact i32r hq.1 (by omega)
        refine g_aload_n X 0 dL_wells_981 rfl rfl ?_
        refine g_aload X 3 dL_wells_982 rfl ?_
        refine g_bipush X (v := nI 7) dL_wells_984 (by decide +kernel) ?_
        refine g_iload X 6 dL_wells_986 rfl ?_
        refine g_imul X (v := nI (7 * i32)) dL_wells_988 (pk_mul _ _) ?_
        refine g_iald X 5 rfl (7 * i32) rfl (by omega) (Nat.le_of_ble_eq_true rfl) (v := nI (plN C i32)) ((lrE_0 C N S34 i32).trans (hC.pl (by omega)).1) dL_wells_989 ?_
        refine g_dup2_11 X dL_wells_990 rfl rfl ?_
        refine g_lald X 0 rfl (plN C i32) rfl (by omega) (Nat.le_of_ble_eq_true rfl) (v := S34 0 (plN C i32)) rfl dL_wells_991 ?_
        refine g_aload X 3 dL_wells_992 rfl ?_
        refine g_bipush X (v := nI 7) dL_wells_994 (by decide +kernel) ?_
        refine g_iload X 6 dL_wells_996 rfl ?_
        refine g_imul X (v := nI (7 * i32)) dL_wells_998 (pk_mul _ _) ?_
        refine g_iconst X (v := nI 4) dL_wells_999 (by decide +kernel) ?_
        refine g_iadd X (v := nI (7 * i32 + 4)) dL_wells_1000 ((nI_add _ _).trans (congrArg nI (by omega))) ?_
        refine g_iald X 5 rfl (7 * i32 + 4) rfl (by omega) (Nat.le_of_ble_eq_true rfl) (v := (S34 5 i32).toInt32) (lrE_4 C N S34 i32) dL_wells_1001 ?_
        refine g_i2l X (v := S34 5 i32) dL_wells_1002 (by exact hr5) ?_
        refine g_ladd X (v := (S34 0 (plN C i32)) + (S34 5 i32)) dL_wells_1003 rfl ?_
        obtain ⟨S39, eS39⟩ : ∃ z : St, z = u2 S34 0 (plN C i32) ((S34 0 (plN C i32)) + (S34 5 i32)) := ⟨_, rfl⟩
        refine g_last X (ws' := wL y cI cJ C N S39 Qk) 0 rfl (plN C i32) rfl (by omega) (Nat.le_of_ble_eq_true rfl) dL_wells_1004 (by rw [eS39]; first | done | (rfl)) ?_
        refine g_aload_n X 1 dL_wells_1005 rfl rfl ?_
        refine g_aload X 3 dL_wells_1006 rfl ?_
        refine g_bipush X (v := nI 7) dL_wells_1008 (by decide +kernel) ?_
        refine g_iload X 6 dL_wells_1010 rfl ?_
        refine g_imul X (v := nI (7 * i32)) dL_wells_1012 (pk_mul _ _) ?_
        refine g_iald X 5 rfl (7 * i32) rfl (by omega) (Nat.le_of_ble_eq_true rfl) (v := nI (plN C i32)) ((lrE_0 C N S39 i32).trans (hC.pl (by omega)).1) dL_wells_1013 ?_
        refine g_dup2_11 X dL_wells_1014 rfl rfl ?_
        refine g_lald X 1 rfl (plN C i32) rfl (by omega) (Nat.le_of_ble_eq_true rfl) (v := S39 1 (plN C i32)) rfl dL_wells_1015 ?_
        refine g_aload X 3 dL_wells_1016 rfl ?_
        refine g_bipush X (v := nI 7) dL_wells_1018 (by decide +kernel) ?_
        refine g_iload X 6 dL_wells_1020 rfl ?_
        refine g_imul X (v := nI (7 * i32)) dL_wells_1022 (pk_mul _ _) ?_
        refine g_iconst X (v := nI 4) dL_wells_1023 (by decide +kernel) ?_
        refine g_iadd X (v := nI (7 * i32 + 4)) dL_wells_1024 ((nI_add _ _).trans (congrArg nI (by omega))) ?_
        refine g_iald X 5 rfl (7 * i32 + 4) rfl (by omega) (Nat.le_of_ble_eq_true rfl) (v := (S39 5 i32).toInt32) (lrE_4 C N S39 i32) dL_wells_1025 ?_
        refine g_i2l X (v := S34 5 i32) dL_wells_1026 (by (try rw [eS39]); exact hr5) ?_
        refine g_lload X 5 dL_wells_1027 rfl ?_
        refine g_lmul X (v := (S34 5 i32) * a23) dL_wells_1029 rfl ?_
        refine g_ladd X (v := (S39 1 (plN C i32)) + ((S34 5 i32) * a23)) dL_wells_1030 rfl ?_
        obtain ⟨S40, eS40⟩ : ∃ z : St, z = u2 S39 1 (plN C i32) ((S39 1 (plN C i32)) + ((S34 5 i32) * a23)) := ⟨_, rfl⟩
        refine g_last X (ws' := wL y cI cJ C N S40 Qk) 1 rfl (plN C i32) rfl (by omega) (Nat.le_of_ble_eq_true rfl) dL_wells_1031 (by rw [eS40]; first | done | (rfl)) ?_
        refine g_aload_n X 2 dL_wells_1032 rfl rfl ?_
        refine g_aload X 3 dL_wells_1033 rfl ?_
        refine g_bipush X (v := nI 7) dL_wells_1035 (by decide +kernel) ?_
        refine g_iload X 6 dL_wells_1037 rfl ?_
        refine g_imul X (v := nI (7 * i32)) dL_wells_1039 (pk_mul _ _) ?_
        refine g_iald X 5 rfl (7 * i32) rfl (by omega) (Nat.le_of_ble_eq_true rfl) (v := nI (plN C i32)) ((lrE_0 C N S40 i32).trans (hC.pl (by omega)).1) dL_wells_1040 ?_
        refine g_dup2_11 X dL_wells_1041 rfl rfl ?_
        refine g_lald X 3 rfl (plN C i32) rfl (by omega) (Nat.le_of_ble_eq_true rfl) (v := S40 3 (plN C i32)) rfl dL_wells_1042 ?_
        refine g_aload X 3 dL_wells_1043 rfl ?_
        refine g_bipush X (v := nI 7) dL_wells_1045 (by decide +kernel) ?_
        refine g_iload X 6 dL_wells_1047 rfl ?_
        refine g_imul X (v := nI (7 * i32)) dL_wells_1049 (pk_mul _ _) ?_
        refine g_iconst X (v := nI 4) dL_wells_1050 (by decide +kernel) ?_
        refine g_iadd X (v := nI (7 * i32 + 4)) dL_wells_1051 ((nI_add _ _).trans (congrArg nI (by omega))) ?_
        refine g_iald X 5 rfl (7 * i32 + 4) rfl (by omega) (Nat.le_of_ble_eq_true rfl) (v := (S40 5 i32).toInt32) (lrE_4 C N S40 i32) dL_wells_1052 ?_
        refine g_i2l X (v := S34 5 i32) dL_wells_1053 (by (try rw [eS40]); (try rw [eS39]); exact hr5) ?_
        refine g_ladd X (v := (S40 3 (plN C i32)) + (S34 5 i32)) dL_wells_1054 rfl ?_
        obtain ⟨S41, eS41⟩ : ∃ z : St, z = u2 S40 3 (plN C i32) ((S40 3 (plN C i32)) + (S34 5 i32)) := ⟨_, rfl⟩
        refine g_last X (ws' := wL y cI cJ C N S41 Qk) 3 rfl (plN C i32) rfl (by omega) (Nat.le_of_ble_eq_true rfl) dL_wells_1055 (by rw [eS41]; first | done | (rfl)) ?_
        refine g_iinc X [(19, .int (nI (i32 + 1))), (0, .ref (y 0)), (1, .ref (y 1)), (3, .ref (y 3)), (4, .ref (y 5)), (10, .ref (y 12)), (17, .long a23)] (q := 6) (v := nI (i32 + 1)) dL_wells_1056 rfl ((congrArg (fun z => nI (i32) + z) (show Int32.ofInt 1 = nI 1 by decide +kernel)).trans ((nI_add _ _).trans (congrArg nI (by omega)))) (Nat.le_of_ble_eq_true rfl) rfl ?_
        refine g_goto X (tgt := 958) dL_wells_1059 (by decide) ?_
        refine g_lv _ [1, 2, 3, 4, 5, 6, 0] rfl ?_
        exact ihL31 (i32 + 1) _ (by omega) (by show _ = gb2 C _ i32 (itr _ _ i32); rw [← eS34, ← gb2_l (N := N) h3 hlti32 h38 (fun z => (congrFun hTc.1 i32).trans (h5v.2 h38 ((ret_6 hTc.2).symm.trans z))), eS41, eS40, eS39]; rfl)
  refine g_lv _ [1, 2, 3, 4, 6, 9, 0] rfl ?_
  exact L31 ((N 0)) 0 _ (by omega) (by first | rfl | ((try rw [eS29]); (try rw [eS26]); (try rw [ea23]); (try rw [eS22]); (try rw [ev17]); (try rw [ea13]); (try rw [ea12]); (try rw [ea11]); (try rw [eS10]); (try rw [eS4]); first | done | rfl))
