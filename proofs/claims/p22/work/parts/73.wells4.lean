set_option maxRecDepth 100000 in
set_option maxHeartbeats 4000000 in
theorem m_L_wells (l : Launch) (D : va_G) (cI cJ cZ : ClassId) (y : Nat → Nat) (C : Cf) (N : Nat → Nat) (S : St) (Qk : Nat → Int64) (k : Int) (hC : Cok C N) (h3 : R01 C N) (hW : Wk k S) (h0 : 0 ≤ k) (hk : k + 200000000 ≤ 1099511627776) (hE : Wel N S) (hn0 : N 0 ≤ 8) (hn1 : N 1 ≤ 3) (hn2 : N 2 ≤ 3) : g_Ct l D cI cJ cZ yL_wells cL_wells 29 none rm_L_wells 0 0 [.ref (y 0), .ref (y 1), .ref (y 2), .ref (y 3), .ref (y 5), .ref (y 6), .ref (y 7), .ref (y 8), .ref (y 9), .ref (y 10), .ref (y 12)] (wL y cI cJ C N S Qk) (g_eq none (wL y cI cJ C N (wlS C N S) Qk)) := by
  refine g_body RL [(0, .ref (y 0)), (1, .ref (y 1)), (2, .ref (y 2)), (3, .ref (y 3)), (4, .ref (y 5)), (5, .ref (y 6)), (6, .ref (y 7)), (7, .ref (y 8)), (8, .ref (y 9)), (9, .ref (y 10)), (10, .ref (y 12))] kH_L rfl (Nat.le_of_ble_eq_true rfl) rfl ?_
  intro p e s m args below meth c A X hr hlk hmn Q hQ
  have hN0 := hC.n0
  have hN1 := hC.n1
  have hN2 := hC.n2
  refine g_iconst X (v := nI 0) dL_wells_0 (by decide +kernel) ?_
  refine g_istore X [(11, .int (nI 0)), (0, .ref (y 0)), (1, .ref (y 1)), (2, .ref (y 2)), (3, .ref (y 3)), (4, .ref (y 5)), (5, .ref (y 6)), (6, .ref (y 7)), (7, .ref (y 8)), (8, .ref (y 9)), (9, .ref (y 10)), (10, .ref (y 12))] dL_wells_1 (Nat.le_of_ble_eq_true rfl) rfl ?_
  have L1 : ∀ (n3 i2 : Nat) (S4 : St), i2 + n3 = (N 0) → S4 = itr (shW C N) S i2 → g_G p l e rm_L_wells s m args below meth c D A 29 0 0 Q (wL y cI cJ C N S4 Qk) [(0, .ref (y 0)), (1, .ref (y 1)), (2, .ref (y 2)), (3, .ref (y 3)), (4, .ref (y 5)), (5, .ref (y 6)), (6, .ref (y 7)), (7, .ref (y 8)), (8, .ref (y 9)), (9, .ref (y 10)), (10, .ref (y 12)), (11, .int (nI i2))] 3 [] := by
    intro n3
    induction n3 with
    | zero =>
      intro i2 S4 hi5 eS4
      obtain rfl : i2 = (N 0) := by omega
      refine g_iload X 11 dL_wells_3 rfl ?_
      refine g_aload X 10 dL_wells_5 rfl ?_
      refine g_iconst X (v := nI 1) dL_wells_7 (by decide +kernel) ?_
      refine g_iald X 12 rfl (1) rfl (by omega) (Nat.le_of_ble_eq_true rfl) (v := nI (N 0)) rfl dL_wells_8 ?_
      refine g_icN_ge X (a := (N 0)) (b := N 0) (tgt := 174) (by omega) (by omega) dL_wells_9 (by decide) (fun h6 => ?_) (fun h6 => absurd h6 (by omega))
      exact n_L_wells_174 l D cI cJ cZ y C N S Qk k hC h3 hW h0 hk hE hn0 hn1 hn2 X hr hlk hQ S4 eS4
    | succ n3 ihL1 =>
      intro i2 S4 hi5 eS4
      have hlti2 : i2 < (N 0) := by omega
      have hpl := (hC.pl hlti2).2
      refine g_iload X 11 dL_wells_3 rfl ?_
      refine g_aload X 10 dL_wells_5 rfl ?_
      refine g_iconst X (v := nI 1) dL_wells_7 (by decide +kernel) ?_
      refine g_iald X 12 rfl (1) rfl (by omega) (Nat.le_of_ble_eq_true rfl) (v := nI (N 0)) rfl dL_wells_8 ?_
      refine g_icN_ge X (a := i2) (b := N 0) (tgt := 174) (by omega) (by omega) dL_wells_9 (by decide) (fun h113 => absurd h113 (by omega)) (fun h113 => ?_)
      refine g_aload X 4 dL_wells_12 rfl ?_
      refine g_bipush X (v := nI 7) dL_wells_14 (by decide +kernel) ?_
      refine g_iload X 11 dL_wells_16 rfl ?_
      refine g_imul X (v := nI (7 * i2)) dL_wells_18 (pk_mul _ _) ?_
      refine g_iconst X (v := nI 1) dL_wells_19 (by decide +kernel) ?_
      refine g_iadd X (v := nI (7 * i2 + 1)) dL_wells_20 ((nI_add _ _).trans (congrArg nI (by omega))) ?_
      refine g_iald X 5 rfl (7 * i2 + 1) rfl (by omega) (Nat.le_of_ble_eq_true rfl) (v := C 3 i2) (lrE_1 C N S4 i2) dL_wells_21 ?_
      refine g_iconst X (v := nI 1) dL_wells_22 (by decide +kernel) ?_
      have J117 : ∀ (v116 : Bool), v116 = (if ¬ (C 3 i2) = (nI 1) then false else if (S4 3 (plN C i2)) ≤ (1999 : Int64) then false else true) → g_G p l e rm_L_wells s m args below meth c D A 29 0 0 Q (wL y cI cJ C N S4 Qk) [(0, .ref (y 0)), (1, .ref (y 1)), (2, .ref (y 2)), (3, .ref (y 3)), (4, .ref (y 5)), (5, .ref (y 6)), (6, .ref (y 7)), (7, .ref (y 8)), (8, .ref (y 9)), (9, .ref (y 10)), (10, .ref (y 12)), (11, .int (nI i2))] 48 [.int (bI v116)] := by
        intro v116 ev116
        refine g_istore X [(12, .int (bI v116)), (0, .ref (y 0)), (1, .ref (y 1)), (2, .ref (y 2)), (3, .ref (y 3)), (4, .ref (y 5)), (5, .ref (y 6)), (6, .ref (y 7)), (7, .ref (y 8)), (8, .ref (y 9)), (9, .ref (y 10)), (10, .ref (y 12)), (11, .int (nI i2))] dL_wells_48 (Nat.le_of_ble_eq_true rfl) rfl ?_
        refine g_iconst X (v := nI 0) dL_wells_50 (by decide +kernel) ?_
        refine g_istore X [(13, .int (nI 0)), (12, .int (bI v116)), (0, .ref (y 0)), (1, .ref (y 1)), (2, .ref (y 2)), (3, .ref (y 3)), (4, .ref (y 5)), (5, .ref (y 6)), (6, .ref (y 7)), (7, .ref (y 8)), (8, .ref (y 9)), (9, .ref (y 10)), (10, .ref (y 12)), (11, .int (nI i2))] dL_wells_51 (Nat.le_of_ble_eq_true rfl) rfl ?_
        have L118 : ∀ (n120 i119 : Nat) (a121 : Bool), i119 + n120 = (N 2) → a121 = shI C S4 i2 i119 → g_G p l e rm_L_wells s m args below meth c D A 29 0 0 Q (wL y cI cJ C N S4 Qk) [(0, .ref (y 0)), (1, .ref (y 1)), (2, .ref (y 2)), (3, .ref (y 3)), (4, .ref (y 5)), (5, .ref (y 6)), (6, .ref (y 7)), (7, .ref (y 8)), (8, .ref (y 9)), (9, .ref (y 10)), (10, .ref (y 12)), (11, .int (nI i2)), (12, .int (bI a121)), (13, .int (nI i119))] 53 [] := by
          intro n120
          induction n120 with
          | zero =>
            intro i119 a121 hi122 ea121
            obtain rfl : i119 = (N 2) := by omega
            refine g_iload X 13 dL_wells_53 rfl ?_
            refine g_aload X 10 dL_wells_55 rfl ?_
            refine g_iconst X (v := nI 2) dL_wells_57 (by decide +kernel) ?_
            refine g_iald X 12 rfl (2) rfl (by omega) (Nat.le_of_ble_eq_true rfl) (v := nI (N 2)) rfl dL_wells_58 ?_
            refine g_icN_ge X (a := (N 2)) (b := N 2) (tgt := 137) (by omega) (by omega) dL_wells_59 (by decide) (fun h123 => ?_) (fun h123 => absurd h123 (by omega))
            refine g_aload X 4 dL_wells_137 rfl ?_
            refine g_bipush X (v := nI 7) dL_wells_139 (by decide +kernel) ?_
            refine g_iload X 11 dL_wells_141 rfl ?_
            refine g_imul X (v := nI (7 * i2)) dL_wells_143 (pk_mul _ _) ?_
            refine g_iconst X (v := nI 5) dL_wells_144 (by decide +kernel) ?_
            refine g_iadd X (v := nI (7 * i2 + 5)) dL_wells_145 ((nI_add _ _).trans (congrArg nI (by omega))) ?_
            refine g_iload X 12 dL_wells_146 rfl ?_
            have J126 : ∀ (v125 : Bool), v125 = (if a121 = false then false else true) → g_G p l e rm_L_wells s m args below meth c D A 29 0 0 Q (wL y cI cJ C N S4 Qk) [(0, .ref (y 0)), (1, .ref (y 1)), (2, .ref (y 2)), (3, .ref (y 3)), (4, .ref (y 5)), (5, .ref (y 6)), (6, .ref (y 7)), (7, .ref (y 8)), (8, .ref (y 9)), (9, .ref (y 10)), (10, .ref (y 12)), (11, .int (nI i2))] 156 [.int (bI v125), .int (nI (7 * i2 + 5)), .ref (y 5)] := by
              intro v125 ev125
              obtain ⟨S127, eS127⟩ : ∃ z : St, z = u2 S4 6 i2 (bL v125) := ⟨_, rfl⟩
              refine g_iast X (ws' := wL y cI cJ C N S127 Qk) 5 rfl (7 * i2 + 5) rfl (by omega) (Nat.le_of_ble_eq_true rfl) dL_wells_156 (by rw [eS127]; first | done | (rw [lrE_w5 _ _ _ i2 (v := bL v125) (bL_32 _)]; rfl)) ?_
              refine g_aload X 4 dL_wells_157 rfl ?_
              refine g_bipush X (v := nI 7) dL_wells_159 (by decide +kernel) ?_
              refine g_iload X 11 dL_wells_161 rfl ?_
              refine g_imul X (v := nI (7 * i2)) dL_wells_163 (pk_mul _ _) ?_
              refine g_iconst X (v := nI 4) dL_wells_164 (by decide +kernel) ?_
              refine g_iadd X (v := nI (7 * i2 + 4)) dL_wells_165 ((nI_add _ _).trans (congrArg nI (by omega))) ?_
              refine g_iconst X (v := nI 0) dL_wells_166 (by decide +kernel) ?_
              obtain ⟨S128, eS128⟩ : ∃ z : St, z = u2 S127 5 i2 0 := ⟨_, rfl⟩
              refine g_iast X (ws' := wL y cI cJ C N S128 Qk) 5 rfl (7 * i2 + 4) rfl (by omega) (Nat.le_of_ble_eq_true rfl) dL_wells_167 (by rw [eS128]; first | done | (rw [lrE_w4 _ _ _ i2 (v := 0) (by decide)]; rfl)) ?_
              refine g_iinc X [(11, .int (nI (i2 + 1))), (0, .ref (y 0)), (1, .ref (y 1)), (2, .ref (y 2)), (3, .ref (y 3)), (4, .ref (y 5)), (5, .ref (y 6)), (6, .ref (y 7)), (7, .ref (y 8)), (8, .ref (y 9)), (9, .ref (y 10)), (10, .ref (y 12))] (q := 11) (v := nI (i2 + 1)) dL_wells_168 rfl ((congrArg (fun z => nI (i2) + z) (show Int32.ofInt 1 = nI 1 by decide +kernel)).trans ((nI_add _ _).trans (congrArg nI (by omega)))) (Nat.le_of_ble_eq_true rfl) rfl ?_
              refine g_goto X (tgt := 3) dL_wells_171 (by decide) ?_
              refine g_lv _ [1, 2, 3, 4, 5, 6, 7, 8, 9, 10, 11, 0] rfl ?_
              exact ihL1 (i2 + 1) _ (by omega) (by (try rw [eS128]); (try rw [eS127]); (try rw [ev125]); (try rw [ea121]); (try rw [ev116]); (try rw [eS4]); first | done | (exact shL_m hC h3 (by omega)))
            refine g_bI_eq X (tgt := 155) dL_wells_148 (by decide) (fun h124 => ?_) (fun h124 => ?_)
            · --
              refine g_iconst X (v := nI 0) dL_wells_155 (by decide +kernel) ?_
              refine g_lv _ [0, 1, 2, 3, 4, 5, 6, 7, 8, 9, 10, 11] rfl ?_
              exact J126 _ (by rw [if_pos (c := a121 = false) h124])
            · --
              refine g_iconst X (v := nI 1) dL_wells_151 (by decide +kernel) ?_
              refine g_goto X (tgt := 156) dL_wells_152 (by decide) ?_
              refine g_lv _ [0, 1, 2, 3, 4, 5, 6, 7, 8, 9, 10, 11] rfl ?_
              exact J126 _ (by rw [if_neg (c := a121 = false) (by rw [h124]; decide)])
          | succ n120 ihL118 =>
            intro i119 a121 hi122 ea121
            have hlti119 : i119 < (N 2) := by omega
            have hs := (hC.sp hlti119).2
            refine g_iload X 13 dL_wells_53 rfl ?_
            refine g_aload X 10 dL_wells_55 rfl ?_
            refine g_iconst X (v := nI 2) dL_wells_57 (by decide +kernel) ?_
            refine g_iald X 12 rfl (2) rfl (by omega) (Nat.le_of_ble_eq_true rfl) (v := nI (N 2)) rfl dL_wells_58 ?_
            refine g_icN_ge X (a := i119) (b := N 2) (tgt := 137) (by omega) (by omega) dL_wells_59 (by decide) (fun h129 => absurd h129 (by omega)) (fun h129 => ?_)
            refine g_iload X 12 dL_wells_62 rfl ?_
            have J135 : ∀ (v134 : Bool), v134 = (if a121 = true then true else if ¬ (C 3 i2) = 0 then false else if (nrB (plN C i2) (spN C i119)) = false then false else if ((C 9 i119).toInt64) ≤ (S4 0 (spN C i119)) then false else true) → g_G p l e rm_L_wells s m args below meth c D A 29 0 0 Q (wL y cI cJ C N S4 Qk) [(0, .ref (y 0)), (1, .ref (y 1)), (2, .ref (y 2)), (3, .ref (y 3)), (4, .ref (y 5)), (5, .ref (y 6)), (6, .ref (y 7)), (7, .ref (y 8)), (8, .ref (y 9)), (9, .ref (y 10)), (10, .ref (y 12)), (11, .int (nI i2)), (13, .int (nI i119))] 129 [.int (bI v134)] := by
              intro v134 ev134
              refine g_istore X [(12, .int (bI v134)), (0, .ref (y 0)), (1, .ref (y 1)), (2, .ref (y 2)), (3, .ref (y 3)), (4, .ref (y 5)), (5, .ref (y 6)), (6, .ref (y 7)), (7, .ref (y 8)), (8, .ref (y 9)), (9, .ref (y 10)), (10, .ref (y 12)), (11, .int (nI i2)), (13, .int (nI i119))] dL_wells_129 (Nat.le_of_ble_eq_true rfl) rfl ?_
              refine g_iinc X [(13, .int (nI (i119 + 1))), (12, .int (bI v134)), (0, .ref (y 0)), (1, .ref (y 1)), (2, .ref (y 2)), (3, .ref (y 3)), (4, .ref (y 5)), (5, .ref (y 6)), (6, .ref (y 7)), (7, .ref (y 8)), (8, .ref (y 9)), (9, .ref (y 10)), (10, .ref (y 12)), (11, .int (nI i2))] (q := 13) (v := nI (i119 + 1)) dL_wells_131 rfl ((congrArg (fun z => nI (i119) + z) (show Int32.ofInt 1 = nI 1 by decide +kernel)).trans ((nI_add _ _).trans (congrArg nI (by omega)))) (Nat.le_of_ble_eq_true rfl) rfl ?_
              refine g_goto X (tgt := 53) dL_wells_134 (by decide) ?_
              refine g_lv _ [2, 3, 4, 5, 6, 7, 8, 9, 10, 11, 12, 13, 1, 0] rfl ?_
              exact ihL118 (i119 + 1) _ (by omega) (by (try rw [ev134]); (try rw [ea121]); first | done | (rfl))
            refine g_bI_ne X (tgt := 124) dL_wells_64 (by decide) (fun h130 => ?_) (fun h130 => ?_)
            · --
              refine g_iconst X (v := nI 1) dL_wells_124 (by decide +kernel) ?_
              refine g_goto X (tgt := 129) dL_wells_125 (by decide) ?_
              refine g_lv _ [0, 1, 2, 3, 4, 5, 6, 7, 8, 9, 10, 11, 13] rfl ?_
              exact J135 _ (by rw [if_pos (c := a121 = true) h130])
            · --
              refine g_aload X 4 dL_wells_67 rfl ?_
              refine g_bipush X (v := nI 7) dL_wells_69 (by decide +kernel) ?_
              refine g_iload X 11 dL_wells_71 rfl ?_
              refine g_imul X (v := nI (7 * i2)) dL_wells_73 (pk_mul _ _) ?_
              refine g_iconst X (v := nI 1) dL_wells_74 (by decide +kernel) ?_
              refine g_iadd X (v := nI (7 * i2 + 1)) dL_wells_75 ((nI_add _ _).trans (congrArg nI (by omega))) ?_
              refine g_iald X 5 rfl (7 * i2 + 1) rfl (by omega) (Nat.le_of_ble_eq_true rfl) (v := C 3 i2) (lrE_1 C N S4 i2) dL_wells_76 ?_
              refine g_if_ne X (tgt := 128) dL_wells_77 (by decide) (fun h131 => ?_) (fun h131 => ?_)
              · --
                refine g_iconst X (v := nI 0) dL_wells_128 (by decide +kernel) ?_
                refine g_lv _ [0, 1, 2, 3, 4, 5, 6, 7, 8, 9, 10, 11, 13] rfl ?_
                exact J135 _ (by rw [if_neg (c := a121 = true) (by rw [h130]; decide), if_pos (c := ¬ (C 3 i2) = 0) h131])
              · --
                refine g_aload X 4 dL_wells_80 rfl ?_
                refine g_bipush X (v := nI 7) dL_wells_82 (by decide +kernel) ?_
                refine g_iload X 11 dL_wells_84 rfl ?_
                refine g_imul X (v := nI (7 * i2)) dL_wells_86 (pk_mul _ _) ?_
                refine g_iald X 5 rfl (7 * i2) rfl (by omega) (Nat.le_of_ble_eq_true rfl) (v := nI (plN C i2)) ((lrE_0 C N S4 i2).trans (hC.pl (by omega)).1) dL_wells_87 ?_
                refine g_aload X 6 dL_wells_88 rfl ?_
                refine g_iconst X (v := nI 5) dL_wells_90 (by decide +kernel) ?_
                refine g_iload X 13 dL_wells_91 rfl ?_
                refine g_imul X (v := nI (5 * i119)) dL_wells_93 (pk_mul _ _) ?_
                refine g_iald X 7 rfl (5 * i119) rfl (by omega) (Nat.le_of_ble_eq_true rfl) (v := nI (spN C i119)) ((lrG_0 C S4 i119).trans (hC.sp (by omega)).1) dL_wells_94 ?_
                refine g_callS X (As := [.int (nI (plN C i2)), .int (nI (spN C i119))]) (rest := []) (m_L_near l D cI cJ cZ (plN C i2) (spN C i119) hpl hs) kM_L_24 kT_yL_near kZ_RL kC_yL_near hV_L_near rfl rfl rfl ⟨Nat.le_of_ble_eq_true rfl, Nat.le_of_ble_eq_true rfl⟩ ⟨Nat.le_of_ble_eq_true rfl, Nat.le_of_ble_eq_true rfl⟩ (Nat.le_of_ble_eq_true rfl) dL_wells_95 rfl [] rfl rfl (g_kk1 (w2 := wL y cI cJ C N S4 Qk) ⟨[], [0, 1, 2, 3, 4, 5, 6, 7, 8, 9, 10, 11, 12], [0, 1, 2, 3, 4, 5, 6, 7, 8, 9, 10, 11, 12], ([0, 1, 2, 3, 4, 5, 6, 7, 8, 9, 10, 11, 12].filterMap fun i => (wL y cI cJ C N S4 Qk)[i]?), rfl, rfl, rfl, rfl, by decide, rfl, rfl⟩ ?_)
                refine g_bI_eq X (tgt := 128) dL_wells_98 (by decide) (fun h132 => ?_) (fun h132 => ?_)
                · --
                  refine g_iconst X (v := nI 0) dL_wells_128 (by decide +kernel) ?_
                  refine g_lv _ [0, 1, 2, 3, 4, 5, 6, 7, 8, 9, 10, 11, 13] rfl ?_
                  exact J135 _ (by rw [if_neg (c := a121 = true) (by rw [h130]; decide), if_neg (c := ¬ (C 3 i2) = 0) (fun z => z h131), if_pos (c := (nrB (plN C i2) (spN C i119)) = false) h132])
                · --
                  refine g_aload_n X 0 dL_wells_101 rfl rfl ?_
                  refine g_aload X 6 dL_wells_102 rfl ?_
                  refine g_iconst X (v := nI 5) dL_wells_104 (by decide +kernel) ?_
                  refine g_iload X 13 dL_wells_105 rfl ?_
                  refine g_imul X (v := nI (5 * i119)) dL_wells_107 (pk_mul _ _) ?_
                  refine g_iald X 7 rfl (5 * i119) rfl (by omega) (Nat.le_of_ble_eq_true rfl) (v := nI (spN C i119)) ((lrG_0 C S4 i119).trans (hC.sp (by omega)).1) dL_wells_108 ?_
                  refine g_lald X 0 rfl (spN C i119) rfl (by omega) (Nat.le_of_ble_eq_true rfl) (v := S4 0 (spN C i119)) rfl dL_wells_109 ?_
                  refine g_aload X 6 dL_wells_110 rfl ?_
                  refine g_iconst X (v := nI 5) dL_wells_112 (by decide +kernel) ?_
                  refine g_iload X 13 dL_wells_113 rfl ?_
                  refine g_imul X (v := nI (5 * i119)) dL_wells_115 (pk_mul _ _) ?_
                  refine g_iconst X (v := nI 2) dL_wells_116 (by decide +kernel) ?_
                  refine g_iadd X (v := nI (5 * i119 + 2)) dL_wells_117 ((nI_add _ _).trans (congrArg nI (by omega))) ?_
                  refine g_iald X 7 rfl (5 * i119 + 2) rfl (by omega) (Nat.le_of_ble_eq_true rfl) (v := C 9 i119) (lrG_2 C S4 i119) dL_wells_118 ?_
                  refine g_i2l X (v := (C 9 i119).toInt64) dL_wells_119 rfl ?_
                  refine g_lj_ge X (tgt := 128) (pc1 := 121) dL_wells_120 rfl dL_wells_121 (by decide) (fun h133 => ?_) (fun h133 => ?_)
                  · --
                    refine g_iconst X (v := nI 0) dL_wells_128 (by decide +kernel) ?_
                    refine g_lv _ [0, 1, 2, 3, 4, 5, 6, 7, 8, 9, 10, 11, 13] rfl ?_
                    exact J135 _ (by rw [if_neg (c := a121 = true) (by rw [h130]; decide), if_neg (c := ¬ (C 3 i2) = 0) (fun z => z h131), if_neg (c := (nrB (plN C i2) (spN C i119)) = false) (by rw [h132]; decide), if_pos (c := ((C 9 i119).toInt64) ≤ (S4 0 (spN C i119))) h133])
                  · --
                    refine g_iconst X (v := nI 1) dL_wells_124 (by decide +kernel) ?_
                    refine g_goto X (tgt := 129) dL_wells_125 (by decide) ?_
                    refine g_lv _ [0, 1, 2, 3, 4, 5, 6, 7, 8, 9, 10, 11, 13] rfl ?_
                    exact J135 _ (by rw [if_neg (c := a121 = true) (by rw [h130]; decide), if_neg (c := ¬ (C 3 i2) = 0) (fun z => z h131), if_neg (c := (nrB (plN C i2) (spN C i119)) = false) (by rw [h132]; decide), if_neg (c := ((C 9 i119).toInt64) ≤ (S4 0 (spN C i119))) h133])
        refine g_lv _ [2, 3, 4, 5, 6, 7, 8, 9, 10, 11, 12, 13, 1, 0] rfl ?_
        exact L118 ((N 2)) 0 _ (by omega) (by first | rfl | ((try rw [ev116]); (try rw [eS4]); first | done | rfl))
      refine g_icmp_ne X (tgt := 47) dL_wells_23 (by decide) (fun h114 => ?_) (fun h114 => ?_)
      · --
        refine g_iconst X (v := nI 0) dL_wells_47 (by decide +kernel) ?_
        exact J117 _ (by rw [if_pos (c := ¬ (C 3 i2) = (nI 1)) h114])
      · --
        refine g_aload_n X 3 dL_wells_26 rfl rfl ?_
        refine g_aload X 4 dL_wells_27 rfl ?_
        refine g_bipush X (v := nI 7) dL_wells_29 (by decide +kernel) ?_
        refine g_iload X 11 dL_wells_31 rfl ?_
        refine g_imul X (v := nI (7 * i2)) dL_wells_33 (pk_mul _ _) ?_
        refine g_iald X 5 rfl (7 * i2) rfl (by omega) (Nat.le_of_ble_eq_true rfl) (v := nI (plN C i2)) ((lrE_0 C N S4 i2).trans (hC.pl (by omega)).1) dL_wells_34 ?_
        refine g_lald X 3 rfl (plN C i2) rfl (by omega) (Nat.le_of_ble_eq_true rfl) (v := S4 3 (plN C i2)) rfl dL_wells_35 ?_
        refine g_ldc2 X kL_L_22 dL_wells_36 ?_
        refine g_lj_le X (tgt := 47) (pc1 := 40) dL_wells_39 rfl dL_wells_40 (by decide) (fun h115 => ?_) (fun h115 => ?_)
        · --
          refine g_iconst X (v := nI 0) dL_wells_47 (by decide +kernel) ?_
          exact J117 _ (by rw [if_neg (c := ¬ (C 3 i2) = (nI 1)) (fun z => z h114), if_pos (c := (S4 3 (plN C i2)) ≤ (1999 : Int64)) h115])
        · --
          refine g_iconst X (v := nI 1) dL_wells_43 (by decide +kernel) ?_
          refine g_goto X (tgt := 48) dL_wells_44 (by decide) ?_
          exact J117 _ (by rw [if_neg (c := ¬ (C 3 i2) = (nI 1)) (fun z => z h114), if_neg (c := (S4 3 (plN C i2)) ≤ (1999 : Int64)) h115])
  refine g_lv _ [1, 2, 3, 4, 5, 6, 7, 8, 9, 10, 11, 0] rfl ?_
  exact L1 ((N 0)) 0 _ (by omega) (by first | rfl | (first | done | rfl))
