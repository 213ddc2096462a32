set_option maxRecDepth 100000 in
set_option maxHeartbeats 4000000 in
theorem n_L_wells_817 (l : Launch) (D : va_G) (cI cJ cZ : ClassId) (y : Nat → Nat) (C : Cf) (N : Nat → Nat) (S : St) (Qk : Nat → Int64) (k : Int) (hC : Cok C N) (h3 : R01 C N) (hW : Wk k S) (h0 : 0 ≤ k) (hk : k + 200000000 ≤ 1099511627776) (hE : Wel N S) (hn0 : N 0 ≤ 8) (hn1 : N 1 ≤ 3) (hn2 : N 2 ≤ 3) {p : Program} {e : Env} {s : State} {m : MethodId} {args : Array Value} {below : List Frame} {meth : Method} {c : Code} {A : Nat → Prop} (X : g_Cx p s m args c D A 29 cL_wells RL cI cJ cZ) (hr : meth.sig.returnType = none) (hlk : meth.locks = false) {Q : State → Prop} (hQ : MQ below (g_Post D A (g_eq none (wL y cI cJ C N (wlS C N S) Qk))) args s 0 0 A = Q) (S4 : St) (eS4 : S4 = itr (shW C N) S (N 0)) (S10 : St) (eS10 : S10 = itr (dwS C N) S4 (N 0)) (a11 : Int64) (ea11 : a11 = brn C N S4 (N 0)) (a12 : Int64) (ea12 : a12 = brh C N S4 (N 0)) (a13 : Int64) (ea13 : a13 = wgt C S4 (N 0)) (v17 : Int64) (ev17 : v17 = (if ¬ a11 = (0 : Int64) then a12 / a11 else (0 : Int64))) (S22 : St) (eS22 : S22 = u2 S10 12 5 (selP C a11 a12 (S10 12 5) (N 1)).2) (a23 : Int64) (ea23 : a23 = (selP C a11 a12 (S10 12 5) (N 1)).1) : g_G p l e rm_L_wells s m args below meth c D A 29 0 0 Q (wL y cI cJ C N S22 Qk) [(0, .ref (y 0)), (1, .ref (y 1)), (3, .ref (y 3)), (4, .ref (y 5)), (8, .ref (y 9)), (9, .ref (y 10)), (10, .ref (y 12)), (11, .long a11), (15, .long a13), (17, .long a23), (19, .int (nI (N 1)))] 817 [] := by
  have hN0 := hC.n0
  have hN1 := hC.n1
  have hN2 := hC.n2
  have hN0 := hC.n0
  have hN1 := hC.n1
  have hN2 := hC.n2
  obtain ⟨hc36, hc3, hc5, hcw⟩ := wl_C (N := N) eS4 eS10 eS22
  have hb2 : 0 ≤ (a11).toInt ∧ (a11).toInt ≤ 10000 := by have := brn_ok hC (sh_ok (C := C) hW hE (N 0)).1 (by omega) (sh_ok (C := C) hW hE (N 0)).2 (N 0) (Nat.le_refl _); rw [ea11, eS4]; omega
  refine g_aload X 5 dL_wells_817 rfl ?_
  refine g_iconst X (v := nI 2) dL_wells_819 (by decide +kernel) ?_
  refine g_dup2_11 X dL_wells_820 rfl rfl ?_
  refine g_lald X 10 rfl (2) rfl (by omega) (Nat.le_of_ble_eq_true rfl) (v := S22 12 2) rfl dL_wells_821 ?_
  refine g_lload X 7 dL_wells_822 rfl ?_
  refine g_ladd X (v := (S22 12 2) + a11) dL_wells_824 rfl ?_
  obtain ⟨S26, eS26⟩ : ∃ z : St, z = u2 S22 12 2 ((S22 12 2) + a11) := ⟨_, rfl⟩
  refine g_last X (ws' := wL y cI cJ C N S26 Qk) 10 rfl (2) rfl (by omega) (Nat.le_of_ble_eq_true rfl) dL_wells_825 (by rw [eS26]; first | done | (rfl)) ?_
  refine g_aload X 6 dL_wells_826 rfl ?_
  refine g_iconst X (v := nI 1) dL_wells_828 (by decide +kernel) ?_
  refine g_iald X 12 rfl (1) rfl (by omega) (Nat.le_of_ble_eq_true rfl) (v := nI (N 0)) rfl dL_wells_829 ?_
  refine g_iconst X (v := nI 1) dL_wells_830 (by decide +kernel) ?_
  refine g_isub X (v := dI (N 0)) dL_wells_831 rfl ?_
  refine g_istore X [(19, .int (dI (N 0))), (0, .ref (y 0)), (1, .ref (y 1)), (3, .ref (y 3)), (4, .ref (y 5)), (8, .ref (y 9)), (9, .ref (y 10)), (10, .ref (y 12)), (11, .long a11), (15, .long a13), (17, .long a23)] dL_wells_832 (Nat.le_of_ble_eq_true rfl) rfl ?_
  have L27 : ∀ (n28 : Nat) (S29 : St), n28 ≤ (N 0) → S29 = gdN C a11 a13 S26 (N 0) (N 0 - n28) → g_G p l e rm_L_wells s m args below meth c D A 29 0 0 Q (wL y cI cJ C N S29 Qk) [(0, .ref (y 0)), (1, .ref (y 1)), (3, .ref (y 3)), (4, .ref (y 5)), (9, .ref (y 10)), (10, .ref (y 12)), (11, .long a11), (15, .long a13), (17, .long a23), (19, .int (dI n28))] 834 [] := by
    intro n28
    induction n28 with
    | zero =>
      intro S29 hi30 eS29
      refine g_iload X 9 dL_wells_834 rfl ?_
      refine g_if_lt X (tgt := 955) dL_wells_836 (by decide) (fun _ => ?_) (fun h => absurd (by decide) h)
      exact n_L_wells_955 l D cI cJ cZ y C N S Qk k hC h3 hW h0 hk hE hn0 hn1 hn2 X hr hlk hQ S4 eS4 S10 eS10 a11 ea11 a12 ea12 a13 ea13 v17 ev17 S22 eS22 a23 ea23 S26 eS26 S29 eS29
    | succ n28 ihL27 =>
      intro S29 hi30 eS29
      refine g_lvq (lv' := [(0, .ref (y 0)), (1, .ref (y 1)), (3, .ref (y 3)), (4, .ref (y 5)), (9, .ref (y 10)), (10, .ref (y 12)), (11, .long a11), (15, .long a13), (17, .long a23), (19, .int (nI n28))]) (by rw [dI_s n28]) ?_
      have hltn28 : n28 < (N 0) := by omega
      have hpl := (hC.pl hltn28).2
      have hmu := hC.mu hltn28
      have hg3 : C 3 n28 = nI 1 → (S29 6 n28).toInt32 = 0 → S29 3 (plN C n28) ≤ 1999 := by rw [eS29, gdN_c (by decide) (by decide), gdN_c (by decide) (by decide), eS26, u2_c _ _ _ (by decide), u2_c _ _ _ (by decide)]; exact hc3 n28 hltn28
      refine g_iload X 9 dL_wells_834 rfl ?_
      refine g_if_lt X (tgt := 955) dL_wells_836 (by decide) (fun h => absurd h (nI_nl0 (by omega))) (fun _ => ?_)
      refine g_aload X 3 dL_wells_839 rfl ?_
      refine g_bipush X (v := nI 7) dL_wells_841 (by decide +kernel) ?_
      refine g_iload X 9 dL_wells_843 rfl ?_
      refine g_imul X (v := nI (7 * n28)) dL_wells_845 (pk_mul _ _) ?_
      refine g_iconst X (v := nI 1) dL_wells_846 (by decide +kernel) ?_
      refine g_iadd X (v := nI (7 * n28 + 1)) dL_wells_847 ((nI_add _ _).trans (congrArg nI (by omega))) ?_
      refine g_iald X 5 rfl (7 * n28 + 1) rfl (by omega) (Nat.le_of_ble_eq_true rfl) (v := C 3 n28) (lrE_1 C N S29 n28) dL_wells_848 ?_
      refine g_iconst X (v := nI 1) dL_wells_849 (by decide +kernel) ?_
      refine g_icmp_ne X (tgt := 949) dL_wells_850 (by decide) (fun h42 => ?_) (fun h42 => ?_)
      · --
        refine g_iinc X [(19, .int (dI n28)), (0, .ref (y 0)), (1, .ref (y 1)), (3, .ref (y 3)), (4, .ref (y 5)), (9, .ref (y 10)), (10, .ref (y 12)), (11, .long a11), (15, .long a13), (17, .long a23)] (q := 9) (v := dI n28) dL_wells_949 rfl (dI_inc _) (Nat.le_of_ble_eq_true rfl) rfl ?_
        refine g_goto X (tgt := 834) dL_wells_952 (by decide) ?_
        refine g_lv _ [1, 2, 3, 4, 5, 6, 7, 8, 9, 0] rfl ?_
        exact ihL27 _ (by omega) (by rw [gdN_s hltn28, ← eS29]; rw [gdW_n (ret_n h42 (h3 n28 hltn28))])
      · --
        refine g_aload X 3 dL_wells_853 rfl ?_
        refine g_bipush X (v := nI 7) dL_wells_855 (by decide +kernel) ?_
        refine g_iload X 9 dL_wells_857 rfl ?_
        refine g_imul X (v := nI (7 * n28)) dL_wells_859 (pk_mul _ _) ?_
        refine g_iconst X (v := nI 5) dL_wells_860 (by decide +kernel) ?_
        refine g_iadd X (v := nI (7 * n28 + 5)) dL_wells_861 ((nI_add _ _).trans (congrArg nI (by omega))) ?_
        refine g_iald X 5 rfl (7 * n28 + 5) rfl (by omega) (Nat.le_of_ble_eq_true rfl) (v := (S29 6 n28).toInt32) (lrE_5 C N S29 n28) dL_wells_862 ?_
        refine g_if_ne X (tgt := 949) dL_wells_863 (by decide) (fun h43 => ?_) (fun h43 => ?_)
        · --
          refine g_iinc X [(19, .int (dI n28)), (0, .ref (y 0)), (1, .ref (y 1)), (3, .ref (y 3)), (4, .ref (y 5)), (9, .ref (y 10)), (10, .ref (y 12)), (11, .long a11), (15, .long a13), (17, .long a23)] (q := 9) (v := dI n28) dL_wells_949 rfl (dI_inc _) (Nat.le_of_ble_eq_true rfl) rfl ?_
          refine g_goto X (tgt := 834) dL_wells_952 (by decide) ?_
          refine g_lv _ [1, 2, 3, 4, 5, 6, 7, 8, 9, 0] rfl ?_
          exact ihL27 _ (by omega) (by rw [gdN_s hltn28, ← eS29]; rw [gdW_n (ret_s h43)])
        · --
          refine g_lload X 7 dL_wells_866 rfl ?_
          refine g_lconst X (v := 0) dL_wells_868 (by decide +kernel) ?_
          refine g_lj_le X (tgt := 949) (pc1 := 870) dL_wells_869 rfl dL_wells_870 (by decide) (fun h44 => ?_) (fun h44 => ?_)
          · --
            refine g_iinc X [(19, .int (dI n28)), (0, .ref (y 0)), (1, .ref (y 1)), (3, .ref (y 3)), (4, .ref (y 5)), (9, .ref (y 10)), (10, .ref (y 12)), (11, .long a11), (15, .long a13), (17, .long a23)] (q := 9) (v := dI n28) dL_wells_949 rfl (dI_inc _) (Nat.le_of_ble_eq_true rfl) rfl ?_
            refine g_goto X (tgt := 834) dL_wells_952 (by decide) ?_
            refine g_lv _ [1, 2, 3, 4, 5, 6, 7, 8, 9, 0] rfl ?_
            exact ihL27 _ (by omega) (by rw [gdN_s hltn28, ← eS29]; rw [gdW_w h44])
          · --
            refine g_lload X 6 dL_wells_873 rfl ?_
            refine g_aload X 3 dL_wells_875 rfl ?_
            refine g_bipush X (v := nI 7) dL_wells_877 (by decide +kernel) ?_
            refine g_iload X 9 dL_wells_879 rfl ?_
            refine g_imul X (v := nI (7 * n28)) dL_wells_881 (pk_mul _ _) ?_
            refine g_iconst X (v := nI 2) dL_wells_882 (by decide +kernel) ?_
            refine g_iadd X (v := nI (7 * n28 + 2)) dL_wells_883 ((nI_add _ _).trans (congrArg nI (by omega))) ?_
            refine g_iald X 5 rfl (7 * n28 + 2) rfl (by omega) (Nat.le_of_ble_eq_true rfl) (v := C 4 n28) (lrE_2 C N S29 n28) dL_wells_884 ?_
            refine g_i2l X (v := (C 4 n28).toInt64) dL_wells_885 rfl ?_
            refine g_lmul X (v := a11 * ((C 4 n28).toInt64)) dL_wells_886 rfl ?_
            refine g_lload X 7 dL_wells_887 rfl ?_
            refine g_ldiv X (v := (a11 * ((C 4 n28).toInt64)) / a13) dL_wells_889 (ne_le0 (by assumption)) rfl ?_
            obtain ⟨x45, ex45⟩ : ∃ z : Int64, z = (a11 * ((C 4 n28).toInt64)) / a13 := ⟨_, rfl⟩
            refine g_st (st' := [.long x45]) (by rw [ex45]; first | done | rfl) ?_
            refine g_lstore X [(20, .long x45), (0, .ref (y 0)), (1, .ref (y 1)), (3, .ref (y 3)), (4, .ref (y 5)), (9, .ref (y 10)), (10, .ref (y 12)), (11, .long a11), (15, .long a13), (17, .long a23), (19, .int (nI n28))] dL_wells_890 (Nat.le_of_ble_eq_true rfl) rfl ?_
            refine g_aload X 4 dL_wells_892 rfl ?_
            refine g_bipush X (v := nI 7) dL_wells_894 (by decide +kernel) ?_
            refine g_iload X 10 dL_wells_896 rfl ?_
            refine g_imul X (v := nI (7 * n28)) dL_wells_898 (pk_mul _ _) ?_
            refine g_iconst X (v := nI 4) dL_wells_899 (by decide +kernel) ?_
            refine g_iadd X (v := nI (7 * n28 + 4)) dL_wells_900 ((nI_add _ _).trans (congrArg nI (by omega))) ?_
            refine g_aload_n X 3 dL_wells_901 rfl rfl ?_
            refine g_aload X 4 dL_wells_902 rfl ?_
            refine g_bipush X (v := nI 7) dL_wells_904 (by decide +kernel) ?_
            refine g_iload X 10 dL_wells_906 rfl ?_
            refine g_imul X (v := nI (7 * n28)) dL_wells_908 (pk_mul _ _) ?_
            refine g_iald X 5 rfl (7 * n28) rfl (by omega) (Nat.le_of_ble_eq_true rfl) (v := nI (plN C n28)) ((lrE_0 C N S29 n28).trans (hC.pl (by omega)).1) dL_wells_909 ?_
            refine g_lald X 3 rfl (plN C n28) rfl (by omega) (Nat.le_of_ble_eq_true rfl) (v := S29 3 (plN C n28)) rfl dL_wells_910 ?_
            refine g_ldc2 X kL_L_48 dL_wells_911 ?_
            have J48 : ∀ (v47 : Int64), v47 = (if (S29 3 (plN C n28)) ≤ (999 : Int64) then x45 else x45 / (2 : Int64)) → g_G p l e rm_L_wells s m args below meth c D A 29 0 0 Q (wL y cI cJ C N S29 Qk) [(0, .ref (y 0)), (1, .ref (y 1)), (3, .ref (y 3)), (4, .ref (y 5)), (9, .ref (y 10)), (10, .ref (y 12)), (11, .long a11), (15, .long a13), (17, .long a23), (19, .int (nI n28))] 929 [.long v47, .int (nI (7 * n28 + 4)), .ref (y 5)] := by
              intro v47 ev47
              replace ev47 := ev47.trans (show _ = partV C S29 a11 n28 a13 from by rw [ex45]; exact part_l (by assumption) (hg3 (by assumption) (by assumption)))
              refine g_l2i X (v := v47.toInt32) dL_wells_929 rfl ?_
              obtain ⟨S49, eS49⟩ : ∃ z : St, z = u2 S29 5 n28 v47 := ⟨_, rfl⟩
              refine g_iast X (ws' := wL y cI cJ C N S49 Qk) 5 rfl (7 * n28 + 4) rfl (by omega) (Nat.le_of_ble_eq_true rfl) dL_wells_930 (by rw [eS49]; first | done | (rw [lrE_w4 _ _ _ n28 (v := v47) rfl]; rfl)) ?_
              refine g_aload X 4 dL_wells_931 rfl ?_
              refine g_iconst X (v := nI 2) dL_wells_933 (by decide +kernel) ?_
              refine g_dup2_11 X dL_wells_934 rfl rfl ?_
              refine g_lald X 10 rfl (2) rfl (by omega) (Nat.le_of_ble_eq_true rfl) (v := S49 12 2) rfl dL_wells_935 ?_
              refine g_aload X 3 dL_wells_936 rfl ?_
              refine g_bipush X (v := nI 7) dL_wells_938 (by decide +kernel) ?_
              refine g_iload X 9 dL_wells_940 rfl ?_
              refine g_imul X (v := nI (7 * n28)) dL_wells_942 (pk_mul _ _) ?_
              refine g_iconst X (v := nI 4) dL_wells_943 (by decide +kernel) ?_
              refine g_iadd X (v := nI (7 * n28 + 4)) dL_wells_944 ((nI_add _ _).trans (congrArg nI (by omega))) ?_
              refine g_iald X 5 rfl (7 * n28 + 4) rfl (by omega) (Nat.le_of_ble_eq_true rfl) (v := (S49 5 n28).toInt32) (lrE_4 C N S49 n28) dL_wells_945 ?_
              refine g_i2l X (v := v47) dL_wells_946 (by rw [eS49, u2_same, ev47]; exact i32r (part_ok hmu hb2.1 hb2.2).1 (Int.le_trans (part_ok hmu hb2.1 hb2.2).2 (by decide))) ?_
              refine g_lsub X (v := (S49 12 2) - v47) dL_wells_947 rfl ?_
              obtain ⟨S50, eS50⟩ : ∃ z : St, z = u2 S49 12 2 ((S49 12 2) - v47) := ⟨_, rfl⟩
              refine g_last X (ws' := wL y cI cJ C N S50 Qk) 10 rfl (2) rfl (by omega) (Nat.le_of_ble_eq_true rfl) dL_wells_948 (by rw [eS50]; first | done | (rfl)) ?_
              refine g_iinc X [(19, .int (dI n28)), (0, .ref (y 0)), (1, .ref (y 1)), (3, .ref (y 3)), (4, .ref (y 5)), (9, .ref (y 10)), (10, .ref (y 12)), (11, .long a11), (15, .long a13), (17, .long a23)] (q := 9) (v := dI n28) dL_wells_949 rfl (dI_inc _) (Nat.le_of_ble_eq_true rfl) rfl ?_
              refine g_goto X (tgt := 834) dL_wells_952 (by decide) ?_
              refine g_lv _ [1, 2, 3, 4, 5, 6, 7, 8, 9, 0] rfl ?_
              exact ihL27 _ (by omega) (by rw [gdN_s hltn28, ← eS29]; unfold gdW; rw [if_neg (ret_y h42 h43), if_neg h44, eS50, eS49, ev47]; rfl)
            refine g_lj_le X (tgt := 927) (pc1 := 915) dL_wells_914 rfl dL_wells_915 (by decide) (fun h46 => ?_) (fun h46 => ?_)
            · --
              refine g_lload X 0 dL_wells_927 rfl ?_
              refine g_lv _ [1, 2, 3, 4, 5, 6, 7, 8, 9, 10] rfl ?_
              exact J48 _ (by rw [if_pos (c := (S29 3 (plN C n28)) ≤ (999 : Int64)) h46])
            · --
              refine g_lload X 0 dL_wells_918 rfl ?_
              refine g_ldc2 X kL_L_50 dL_wells_920 ?_
              refine g_ldiv X (v := x45 / (2 : Int64)) dL_wells_923 (by decide +kernel) rfl ?_
              refine g_goto X (tgt := 929) dL_wells_924 (by decide) ?_
              refine g_lv _ [1, 2, 3, 4, 5, 6, 7, 8, 9, 10] rfl ?_
              exact J48 _ (by rw [if_neg (c := (S29 3 (plN C n28)) ≤ (999 : Int64)) h46])
  refine g_lv _ [1, 2, 3, 4, 6, 7, 8, 9, 10, 0] rfl ?_
  exact L27 (N 0) _ (Nat.le_refl _) (by rw [Nat.sub_self]; rfl)
set_option maxRecDepth 100000 in
set_option maxHeartbeats 4000000 in
theorem n_L_wells_704 (l : Launch) (D : va_G) (cI cJ cZ : ClassId) (y : Nat → Nat) (C : Cf) (N : Nat → Nat) (S : St) (Qk : Nat → Int64) (k : Int) (hC : Cok C N) (h3 : R01 C N) (hW : Wk k S) (h0 : 0 ≤ k) (hk : k + 200000000 ≤ 1099511627776) (hE : Wel N S) (hn0 : N 0 ≤ 8) (hn1 : N 1 ≤ 3) (hn2 : N 2 ≤ 3) {p : Program} {e : Env} {s : State} {m : MethodId} {args : Array Value} {below : List Frame} {meth : Method} {c : Code} {A : Nat → Prop} (X : g_Cx p s m args c D A 29 cL_wells RL cI cJ cZ) (hr : meth.sig.returnType = none) (hlk : meth.locks = false) {Q : State → Prop} (hQ : MQ below (g_Post D A (g_eq none (wL y cI cJ C N (wlS C N S) Qk))) args s 0 0 A = Q) (S4 : St) (eS4 : S4 = itr (shW C N) S (N 0)) (S10 : St) (eS10 : S10 = itr (dwS C N) S4 (N 0)) (a11 : Int64) (ea11 : a11 = brn C N S4 (N 0)) (a12 : Int64) (ea12 : a12 = brh C N S4 (N 0)) (a13 : Int64) (ea13 : a13 = wgt C S4 (N 0)) : g_G p l e rm_L_wells s m args below meth c D A 29 0 0 Q (wL y cI cJ C N S10 Qk) [(0, .ref (y 0)), (1, .ref (y 1)), (2, .ref (y 2)), (3, .ref (y 3)), (4, .ref (y 5)), (5, .ref (y 6)), (6, .ref (y 7)), (7, .ref (y 8)), (8, .ref (y 9)), (9, .ref (y 10)), (10, .ref (y 12)), (11, .long a11), (13, .long a12), (15, .long a13), (17, .int (nI (N 0)))] 704 [] := by
  have hN0 := hC.n0
  have hN1 := hC.n1
  have hN2 := hC.n2
  have hN0 := hC.n0
  have hN1 := hC.n1
  have hN2 := hC.n2
  have hbr : 0 ≤ (a11).toInt := by rw [ea11, eS4]; exact (brn_ok hC (sh_ok (C := C) hW hE (N 0)).1 (by omega) (sh_ok (C := C) hW hE (N 0)).2 (N 0) (Nat.le_refl _)).1
  refine g_lload X 11 dL_wells_704 rfl ?_
  refine g_lconst X (v := 0) dL_wells_706 (by decide +kernel) ?_
  have J18 : ∀ (v17 : Int64), v17 = (if ¬ a11 = (0 : Int64) then a12 / a11 else (0 : Int64)) → g_G p l e rm_L_wells s m args below meth c D A 29 0 0 Q (wL y cI cJ C N S10 Qk) [(0, .ref (y 0)), (1, .ref (y 1)), (3, .ref (y 3)), (4, .ref (y 5)), (8, .ref (y 9)), (9, .ref (y 10)), (10, .ref (y 12)), (11, .long a11), (15, .long a13)] 720 [.long v17] := by
    intro v17 ev17
    refine g_lstore X [(17, .long v17), (0, .ref (y 0)), (1, .ref (y 1)), (3, .ref (y 3)), (4, .ref (y 5)), (8, .ref (y 9)), (9, .ref (y 10)), (10, .ref (y 12)), (11, .long a11), (15, .long a13)] dL_wells_720 (Nat.le_of_ble_eq_true rfl) rfl ?_
    refine g_iconst X (v := nI 0) dL_wells_722 (by decide +kernel) ?_
    refine g_istore X [(19, .int (nI 0)), (17, .long v17), (0, .ref (y 0)), (1, .ref (y 1)), (3, .ref (y 3)), (4, .ref (y 5)), (8, .ref (y 9)), (9, .ref (y 10)), (10, .ref (y 12)), (11, .long a11), (15, .long a13)] dL_wells_723 (Nat.le_of_ble_eq_true rfl) rfl ?_
    have L19 : ∀ (n21 i20 : Nat) (S22 : St) (a23 : Int64), i20 + n21 = (N 1) → S22 = u2 S10 12 5 (selP C a11 a12 (S10 12 5) i20).2 → a23 = (selP C a11 a12 (S10 12 5) i20).1 → g_G p l e rm_L_wells s m args below meth c D A 29 0 0 Q (wL y cI cJ C N S22 Qk) [(0, .ref (y 0)), (1, .ref (y 1)), (3, .ref (y 3)), (4, .ref (y 5)), (8, .ref (y 9)), (9, .ref (y 10)), (10, .ref (y 12)), (11, .long a11), (15, .long a13), (17, .long a23), (19, .int (nI i20))] 725 [] := by
      intro n21
      induction n21 with
      | zero =>
        intro i20 S22 a23 hi24 eS22 ea23
        obtain rfl : i20 = (N 1) := by omega
        refine g_iload X 10 dL_wells_725 rfl ?_
        refine g_aload X 6 dL_wells_727 rfl ?_
        refine g_iconst X (v := nI 3) dL_wells_729 (by decide +kernel) ?_
        refine g_iald X 12 rfl (3) rfl (by omega) (Nat.le_of_ble_eq_true rfl) (v := nI (N 1)) rfl dL_wells_730 ?_
        refine g_icN_ge X (a := (N 1)) (b := N 1) (tgt := 817) (by omega) (by omega) dL_wells_731 (by decide) (fun h25 => ?_) (fun h25 => absurd h25 (by omega))
        exact n_L_wells_817 l D cI cJ cZ y C N S Qk k hC h3 hW h0 hk hE hn0 hn1 hn2 X hr hlk hQ S4 eS4 S10 eS10 a11 ea11 a12 ea12 a13 ea13 v17 ev17 S22 eS22 a23 ea23
      | succ n21 ihL19 =>
        intro i20 S22 a23 hi24 eS22 ea23
        have hlti20 : i20 < (N 1) := by omega
        refine g_iload X 10 dL_wells_725 rfl ?_
        refine g_aload X 6 dL_wells_727 rfl ?_
        refine g_iconst X (v := nI 3) dL_wells_729 (by decide +kernel) ?_
        refine g_iald X 12 rfl (3) rfl (by omega) (Nat.le_of_ble_eq_true rfl) (v := nI (N 1)) rfl dL_wells_730 ?_
        refine g_icN_ge X (a := i20) (b := N 1) (tgt := 817) (by omega) (by omega) dL_wells_731 (by decide) (fun h51 => absurd h51 (by omega)) (fun h51 => ?_)
        refine g_lload X 7 dL_wells_734 rfl ?_
        refine g_lconst X (v := 0) dL_wells_736 (by decide +kernel) ?_
        have J56 : ∀ (v55 : Int64), v55 = (if a11 = (0 : Int64) then (0 : Int64) else if ((C 5 i20).toInt64) ≤ a23 then if ((C 6 i20).toInt64) ≤ a23 then (C 6 i20).toInt64 else a23 else (0 : Int64)) → g_G p l e rm_L_wells s m args below meth c D A 29 0 0 Q (wL y cI cJ C N S22 Qk) [(0, .ref (y 0)), (1, .ref (y 1)), (3, .ref (y 3)), (4, .ref (y 5)), (8, .ref (y 9)), (9, .ref (y 10)), (10, .ref (y 12)), (11, .long a11), (15, .long a13), (17, .long a23), (19, .int (nI i20))] 790 [.long v55] := by
          intro v55 ev55
          obtain ⟨x57, ex57⟩ : ∃ z : Int64, z = v55 := ⟨_, rfl⟩
          refine g_st (st' := [.long x57]) (by rw [ex57]; first | done | rfl) ?_
          refine g_lstore X [(20, .long x57), (0, .ref (y 0)), (1, .ref (y 1)), (3, .ref (y 3)), (4, .ref (y 5)), (8, .ref (y 9)), (9, .ref (y 10)), (10, .ref (y 12)), (11, .long a11), (15, .long a13), (17, .long a23), (19, .int (nI i20))] dL_wells_790 (Nat.le_of_ble_eq_true rfl) rfl ?_
          refine g_aload X 6 dL_wells_792 rfl ?_
          refine g_iconst X (v := nI 5) dL_wells_794 (by decide +kernel) ?_
          refine g_dup2_11 X dL_wells_795 rfl rfl ?_
          refine g_lald X 10 rfl (5) rfl (by omega) (Nat.le_of_ble_eq_true rfl) (v := S22 12 5) rfl dL_wells_796 ?_
          refine g_lload X 0 dL_wells_797 rfl ?_
          refine g_lload X 8 dL_wells_799 rfl ?_
          refine g_lmul X (v := x57 * a11) dL_wells_801 rfl ?_
          refine g_ladd X (v := (S22 12 5) + (x57 * a11)) dL_wells_802 rfl ?_
          obtain ⟨S58, eS58⟩ : ∃ z : St, z = u2 S22 12 5 ((S22 12 5) + (x57 * a11)) := ⟨_, rfl⟩
          refine g_last X (ws' := wL y cI cJ C N S58 Qk) 10 rfl (5) rfl (by omega) (Nat.le_of_ble_eq_true rfl) dL_wells_803 (by rw [eS58]; first | done | (rfl)) ?_
          refine g_lload X 10 dL_wells_804 rfl ?_
          refine g_lload X 0 dL_wells_806 rfl ?_
          refine g_lsub X (v := a23 - x57) dL_wells_808 rfl ?_
          refine g_lstore X [(17, .long (a23 - x57)), (20, .long x57), (0, .ref (y 0)), (1, .ref (y 1)), (3, .ref (y 3)), (4, .ref (y 5)), (8, .ref (y 9)), (9, .ref (y 10)), (10, .ref (y 12)), (11, .long a11), (15, .long a13), (19, .int (nI i20))] dL_wells_809 (Nat.le_of_ble_eq_true rfl) rfl ?_
          refine g_iinc X [(19, .int (nI (i20 + 1))), (17, .long (a23 - x57)), (20, .long x57), (0, .ref (y 0)), (1, .ref (y 1)), (3, .ref (y 3)), (4, .ref (y 5)), (8, .ref (y 9)), (9, .ref (y 10)), (10, .ref (y 12)), (11, .long a11), (15, .long a13)] (q := 11) (v := nI (i20 + 1)) dL_wells_811 rfl ((congrArg (fun z => nI (i20) + z) (show Int32.ofInt 1 = nI 1 by decide +kernel)).trans ((nI_add _ _).trans (congrArg nI (by omega)))) (Nat.le_of_ble_eq_true rfl) rfl ?_
          refine g_goto X (tgt := 725) dL_wells_814 (by decide) ?_
          refine g_lv _ [3, 4, 5, 6, 7, 8, 9, 10, 11, 1, 0] rfl ?_
          exact ihL19 (i20 + 1) _ _ (by omega) (by rw [eS58, eS22, u2_twice, u2_same, sel_l hbr, ex57, ev55, ea23]) (by rw [sel_l hbr, ex57, ev55, ea23])
        refine g_lj_eq X (tgt := 755) (pc1 := 738) dL_wells_737 rfl dL_wells_738 (by decide) (fun h52 => ?_) (fun h52 => ?_)
        · --
          refine g_lconst X (v := 0) dL_wells_755 (by decide +kernel) ?_
          refine g_goto X (tgt := 790) dL_wells_756 (by decide) ?_
          exact J56 _ (by rw [if_pos (c := a11 = (0 : Int64)) h52])
        · --
          refine g_lload X 9 dL_wells_741 rfl ?_
          refine g_aload X 4 dL_wells_743 rfl ?_
          refine g_iconst X (v := nI 2) dL_wells_745 (by decide +kernel) ?_
          refine g_iload X 10 dL_wells_746 rfl ?_
          refine g_imul X (v := nI (2 * i20)) dL_wells_748 (pk_mul _ _) ?_
          refine g_iald X 9 rfl (2 * i20) rfl (by omega) (Nat.le_of_ble_eq_true rfl) (v := C 5 i20) (lrU_0 C i20) dL_wells_749 ?_
          refine g_i2l X (v := (C 5 i20).toInt64) dL_wells_750 rfl ?_
          refine g_lj_ge X (tgt := 759) (pc1 := 752) dL_wells_751 rfl dL_wells_752 (by decide) (fun h53 => ?_) (fun h53 => ?_)
          · --
            refine g_lload X 9 dL_wells_759 rfl ?_
            refine g_aload X 4 dL_wells_761 rfl ?_
            refine g_iconst X (v := nI 2) dL_wells_763 (by decide +kernel) ?_
            refine g_iload X 10 dL_wells_764 rfl ?_
            refine g_imul X (v := nI (2 * i20)) dL_wells_766 (pk_mul _ _) ?_
            refine g_iconst X (v := nI 1) dL_wells_767 (by decide +kernel) ?_
            refine g_iadd X (v := nI (2 * i20 + 1)) dL_wells_768 ((nI_add _ _).trans (congrArg nI (by omega))) ?_
            refine g_iald X 9 rfl (2 * i20 + 1) rfl (by omega) (Nat.le_of_ble_eq_true rfl) (v := C 6 i20) (lrU_1 C i20) dL_wells_769 ?_
            refine g_i2l X (v := (C 6 i20).toInt64) dL_wells_770 rfl ?_
            refine g_lj_ge X (tgt := 780) (pc1 := 772) dL_wells_771 rfl dL_wells_772 (by decide) (fun h54 => ?_) (fun h54 => ?_)
            · --
              refine g_aload X 4 dL_wells_780 rfl ?_
              refine g_iconst X (v := nI 2) dL_wells_782 (by decide +kernel) ?_
              refine g_iload X 10 dL_wells_783 rfl ?_
              refine g_imul X (v := nI (2 * i20)) dL_wells_785 (pk_mul _ _) ?_
              refine g_iconst X (v := nI 1) dL_wells_786 (by decide +kernel) ?_
              refine g_iadd X (v := nI (2 * i20 + 1)) dL_wells_787 ((nI_add _ _).trans (congrArg nI (by omega))) ?_
              refine g_iald X 9 rfl (2 * i20 + 1) rfl (by omega) (Nat.le_of_ble_eq_true rfl) (v := C 6 i20) (lrU_1 C i20) dL_wells_788 ?_
              refine g_i2l X (v := (C 6 i20).toInt64) dL_wells_789 rfl ?_
              exact J56 _ (by rw [if_neg (c := a11 = (0 : Int64)) h52, if_pos (c := ((C 5 i20).toInt64) ≤ a23) h53, if_pos (c := ((C 6 i20).toInt64) ≤ a23) h54])
            · --
              refine g_lload X 9 dL_wells_775 rfl ?_
              refine g_goto X (tgt := 790) dL_wells_777 (by decide) ?_
              exact J56 _ (by rw [if_neg (c := a11 = (0 : Int64)) h52, if_pos (c := ((C 5 i20).toInt64) ≤ a23) h53, if_neg (c := ((C 6 i20).toInt64) ≤ a23) h54])
          · --
            refine g_lconst X (v := 0) dL_wells_755 (by decide +kernel) ?_
            refine g_goto X (tgt := 790) dL_wells_756 (by decide) ?_
            exact J56 _ (by rw [if_neg (c := a11 = (0 : Int64)) h52, if_neg (c := ((C 5 i20).toInt64) ≤ a23) h53])
    refine g_lv _ [2, 3, 4, 5, 6, 7, 8, 9, 10, 1, 0] rfl ?_
    exact L19 ((N 1)) 0 _ _ (by omega) (u2_self _ _ _).symm (by rw [ev17]; exact sel_0 hbr)
  refine g_lj_ne X (tgt := 715) (pc1 := 708) dL_wells_707 rfl dL_wells_708 (by decide) (fun h16 => ?_) (fun h16 => ?_)
  · --
    refine g_lload X 12 dL_wells_715 rfl ?_
    refine g_lload X 11 dL_wells_717 rfl ?_
    refine g_ldiv X (v := a12 / a11) dL_wells_719 (by assumption) rfl ?_
    refine g_lv _ [0, 1, 3, 4, 8, 9, 10, 11, 13] rfl ?_
    exact J18 _ (by rw [if_pos (c := ¬ a11 = (0 : Int64)) h16])
  · --
    refine g_lconst X (v := 0) dL_wells_711 (by decide +kernel) ?_
    refine g_goto X (tgt := 720) dL_wells_712 (by decide) ?_
    refine g_lv _ [0, 1, 3, 4, 8, 9, 10, 11, 13] rfl ?_
    exact J18 _ (by rw [if_neg (c := ¬ a11 = (0 : Int64)) (fun z => z h16)])
