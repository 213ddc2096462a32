abbrev rm_X6_wouldX : Room := { frames := 8, cells := 1, slots := 6, locals := 124 }
set_option maxRecDepth 100000 in
set_option maxHeartbeats 4000000 in
theorem m_X6_wouldX (l : Launch) (hl0 : l.stackTraces = false) (D : va_G) (cI cJ cZ : ClassId) (B0 : Nat) (x : Nat → Nat) (C : Cf) (N : Nat → Nat) (S : St) (Qk : Nat → Int64) (Z : St) (jC : Cf) (jN : Nat → Nat) (jS : St) (jQ : Nat → Int64) (jZ : St) (v q r : Int32) (hC : Cok C N) (hR : Rok C) (hX : Xok C) (hI : ∀ i, i ≤ 24 → MonOk C N (mnS C N S i)) (h3 : ∀ w, w < N 0 → C 3 w = 0 ∨ C 3 w = 1) (hZ : ZB jC jN jS) (hY : ZB C N S) (hn0 : jN 0 ≤ N 0) (hn1 : jN 1 ≤ N 1) (hn2 : jN 2 ≤ N 2) (hc1 : ¬ cD3 v q r = 0) (hB : g_Bw B0 (wX2 x cI cJ cZ C N S Qk Z jC jN jS jQ jZ)) : g_CtX l D cI cJ cZ B0 yX6_would cX6_would 5 (some .long) rm_X6_wouldX 1 6 [.ref (x 0), .int v, .int q, .int r] (wX2 x cI cJ cZ C N S Qk Z jC jN jS jQ jZ) (fun _ _ => False) (fun E w => E = eA (cD3 v q r) ∧ w = wX2 x cI cJ cZ C N S Qk Z jC jN jS jQ jZ) := by
  refine g_bodyX RX6 [(0, .ref (x 0)), (1, .int v), (2, .int q), (3, .int r)] kH_X6 rfl (Nat.le_of_ble_eq_true rfl) rfl hB ?_
  intro p e s m args below meth c A X Y hT hr hlk hmn Q hQ
  refine g_iload_n X 2 dX6_would_0 rfl rfl ?_
  refine g_bipush X (v := nI 12) dX6_would_1 (by decide +kernel) ?_
  by_cases hok1 : inB q (nI 0) (nI 11) = true
  · --
    refine g_callS X (As := [.int q, .int (nI 12)]) (rest := []) (m_X6_requireIndex l D cI cJ cZ q 12 (nI 11) (by decide +kernel) (by omega) hok1) kM_X6_19 kT_yX6_requireIndex kZ_RX6 kC_yX6_requireIndex hV_X6_requireIndex rfl rfl rfl ⟨Nat.le_of_ble_eq_true rfl, Nat.le_of_ble_eq_true rfl⟩ ⟨Nat.le_of_ble_eq_true rfl, Nat.le_of_ble_eq_true rfl⟩ (Nat.le_of_ble_eq_true rfl) dX6_would_3 rfl [] rfl rfl (g_kk1 (w2 := wX2 x cI cJ cZ C N S Qk Z jC jN jS jQ jZ) em0 ?_)
    refine g_iload_n X 1 dX6_would_6 rfl rfl ?_
    refine g_iconst X (v := nI 0) dX6_would_7 (by decide +kernel) ?_
    refine g_bipush X (v := nI 24) dX6_would_8 (by decide +kernel) ?_
    by_cases hok2 : inB v (nI 0) (nI 24) = true
    · --
      refine g_callS X (As := [.int v, .int (nI 0), .int (nI 24)]) (rest := []) (m_X6_requireRange l D cI cJ cZ v (nI 0) (nI 24) hok2) kM_X6_24 kT_yX6_requireRange kZ_RX6 kC_yX6_requireRange hV_X6_requireRange rfl rfl rfl ⟨Nat.le_of_ble_eq_true rfl, Nat.le_of_ble_eq_true rfl⟩ ⟨Nat.le_of_ble_eq_true rfl, Nat.le_of_ble_eq_true rfl⟩ (Nat.le_of_ble_eq_true rfl) dX6_would_10 rfl [] rfl rfl (g_kk1 (w2 := wX2 x cI cJ cZ C N S Qk Z jC jN jS jQ jZ) em0 ?_)
      refine g_iload_n X 3 dX6_would_13 rfl rfl ?_
      refine g_iconst X (v := nI 0) dX6_would_14 (by decide +kernel) ?_
      refine g_iconst X (v := nI 5) dX6_would_15 (by decide +kernel) ?_
      by_cases hok3 : inB r (nI 0) (nI 5) = true
      · --
        refine g_callS X (As := [.int r, .int (nI 0), .int (nI 5)]) (rest := []) (m_X6_requireRange l D cI cJ cZ r (nI 0) (nI 5) hok3) kM_X6_24 kT_yX6_requireRange kZ_RX6 kC_yX6_requireRange hV_X6_requireRange rfl rfl rfl ⟨Nat.le_of_ble_eq_true rfl, Nat.le_of_ble_eq_true rfl⟩ ⟨Nat.le_of_ble_eq_true rfl, Nat.le_of_ble_eq_true rfl⟩ (Nat.le_of_ble_eq_true rfl) dX6_would_16 rfl [] rfl rfl (g_kk1 (w2 := wX2 x cI cJ cZ C N S Qk Z jC jN jS jQ jZ) em0 ?_)
        refine absurd ?_ hc1
        unfold cD3
        (repeat' split) <;> first | rfl | (exfalso; simp_all; done)
      · --
        refine g_callSX X Y hT hlk hQ (As := [.int r, .int (nI 0), .int (nI 5)]) (rest := []) (m_X6_requireRangeX l hl0 D cI cJ cZ B0 r (nI 0) (nI 5) (eq_false_of_ne_true hok3)) kM_X6_24 kT_yX6_requireRange kZ_RX6 kC_yX6_requireRange hV_X6_requireRange rfl rfl rfl ⟨Nat.le_of_ble_eq_true rfl, Nat.le_of_ble_eq_true rfl⟩ ⟨Nat.le_of_ble_eq_true rfl, Nat.le_of_ble_eq_true rfl⟩ (Nat.le_of_ble_eq_true rfl) dX6_would_16 rfl em0 (Nat.le_of_ble_eq_true rfl) (Nat.le_of_ble_eq_true rfl) ?_
        refine ⟨?_, rfl⟩
        (try clear evn); (try clear eqn)
        unfold cD3
        (repeat' split) <;> first | (exfalso; simp_all; done) | rfl
    · --
      refine g_callSX X Y hT hlk hQ (As := [.int v, .int (nI 0), .int (nI 24)]) (rest := []) (m_X6_requireRangeX l hl0 D cI cJ cZ B0 v (nI 0) (nI 24) (eq_false_of_ne_true hok2)) kM_X6_24 kT_yX6_requireRange kZ_RX6 kC_yX6_requireRange hV_X6_requireRange rfl rfl rfl ⟨Nat.le_of_ble_eq_true rfl, Nat.le_of_ble_eq_true rfl⟩ ⟨Nat.le_of_ble_eq_true rfl, Nat.le_of_ble_eq_true rfl⟩ (Nat.le_of_ble_eq_true rfl) dX6_would_10 rfl em0 (Nat.le_of_ble_eq_true rfl) (Nat.le_of_ble_eq_true rfl) ?_
      refine ⟨?_, rfl⟩
      (try clear evn); (try clear eqn)
      unfold cD3
      (repeat' split) <;> first | (exfalso; simp_all; done) | rfl
  · --
    refine g_callSX X Y hT hlk hQ (As := [.int q, .int (nI 12)]) (rest := []) (m_X6_requireIndexX l hl0 D cI cJ cZ B0 q 12 (nI 11) (by decide +kernel) (by omega) (eq_false_of_ne_true hok1)) kM_X6_19 kT_yX6_requireIndex kZ_RX6 kC_yX6_requireIndex hV_X6_requireIndex rfl rfl rfl ⟨Nat.le_of_ble_eq_true rfl, Nat.le_of_ble_eq_true rfl⟩ ⟨Nat.le_of_ble_eq_true rfl, Nat.le_of_ble_eq_true rfl⟩ (Nat.le_of_ble_eq_true rfl) dX6_would_3 rfl em0 (Nat.le_of_ble_eq_true rfl) (Nat.le_of_ble_eq_true rfl) ?_
    refine ⟨?_, rfl⟩
    (try clear evn); (try clear eqn)
    unfold cD3
    (repeat' split) <;> first | (exfalso; simp_all; done) | rfl
