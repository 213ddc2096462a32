theorem hV_L_tells : yL_tells.cls = RL ∧ yL_tells.cls ≠ "java/lang/invoke/MethodHandle" ∧ yL_tells.cls ≠ "java/lang/invoke/VarHandle" ∧ (parseMethodDescriptor yL_tells.desc).map (fun d => d.parameters.length) = some 11 := by decide +kernel
set_option maxRecDepth 100000 in
set_option maxHeartbeats 4000000 in
theorem m_L_tells (l : Launch) (D : va_G) (cI cJ cZ : ClassId) (x y : Nat → Nat) (C : Cf) (N : Nat → Nat) (S : St) (Qk : Nat → Int64) (Z : St) (jC : Cf) (jN : Nat → Nat) (jS : St) (jQ : Nat → Int64) (jZ : St) (act : Nat) (zv : Int32) (mo : Nat) (hm : mo ≤ 600) (hL : LV C N S mo) (hact : act < 10) : g_Ct l D cI cJ cZ yL_tells cL_tells 16 (some .boolean) rm_L_tells 0 0 [.ref (x 0), .int (nI act), .int zv, .ref (y 0), .ref (y 1), .ref (y 2), .ref (y 4), .ref (y 5), .ref (y 7), .ref (y 9), .ref (y 12)] (wX2 x cI cJ cZ C N S Qk Z jC jN jS jQ jZ ++ wL y cI cJ C N S Qk) (TP x y cI cJ cZ N Qk Z jC jN jS jQ jZ mo) := by
  refine g_body RL [(0, .ref (x 0)), (1, .int (nI act)), (2, .int zv), (3, .ref (y 0)), (4, .ref (y 1)), (5, .ref (y 2)), (6, .ref (y 4)), (7, .ref (y 5)), (8, .ref (y 7)), (9, .ref (y 9)), (10, .ref (y 12))] kH_L rfl (Nat.le_of_ble_eq_true rfl) rfl ?_
  intro p e s m args below meth c A X hr hlk hmn Q hQ
  refine g_iload_n X 2 dL_tells_0 rfl rfl ?_
  refine g_bipush X (v := nI 12) dL_tells_1 (by decide +kernel) ?_
  have fl1 := lwN_lt (zv) (n := 12) (by omega)
  refine g_callS X (As := [.int zv, .int (nI 12)]) (rest := []) (m_L_low l D cI cJ cZ zv 12 (by omega) (by omega)) kM_L_114 kT_yL_low kZ_RL kC_yL_low hV_L_low rfl rfl rfl ⟨Nat.le_of_ble_eq_true rfl, Nat.le_of_ble_eq_true rfl⟩ ⟨Nat.le_of_ble_eq_true rfl, Nat.le_of_ble_eq_true rfl⟩ (Nat.le_of_ble_eq_true rfl) dL_tells_3 rfl [] rfl (by decide +kernel) (g_kk1 (w2 := wX2 x cI cJ cZ C N S Qk Z jC jN jS jQ jZ ++ wL y cI cJ C N S Qk) em0 ?_)
  obtain ⟨b, eb⟩ : ∃ z : Nat, z = lwN zv 12 := ⟨_, rfl⟩
  have hb : b < 12 := by rw [eb]; exact lwN_lt _ (by omega)
  refine g_st (st' := [.int (nI b)]) (by rw [eb]; first | done | rfl) ?_
  refine g_istore X [(11, .int (nI b)), (0, .ref (x 0)), (1, .int (nI act)), (2, .int zv), (3, .ref (y 0)), (4, .ref (y 1)), (5, .ref (y 2)), (6, .ref (y 4)), (7, .ref (y 5)), (8, .ref (y 7)), (9, .ref (y 9)), (10, .ref (y 12))] dL_tells_6 (Nat.le_of_ble_eq_true rfl) rfl ?_
  rcases (show act = 0 ∨ act = 1 ∨ act = 2 ∨ act = 3 ∨ act = 4 ∨ act = 5 ∨ act = 6 ∨ act = 7 ∨ act = 8 ∨ act = 9 by omega) with rfl | rfl | rfl | rfl | rfl | rfl | rfl | rfl | rfl | rfl
  · refine g_lv [(0, .ref (x 0)), (1, .int (nI 0)), (2, .int zv), (3, .ref (y 0)), (4, .ref (y 1)), (5, .ref (y 2)), (6, .ref (y 4)), (7, .ref (y 5)), (8, .ref (y 7)), (9, .ref (y 9)), (10, .ref (y 12)), (11, .int (nI b))] [1, 2, 3, 4, 5, 6, 7, 8, 9, 10, 11, 0] rfl ?_
    exact n_tells_0 l D cI cJ cZ x y C N S Qk Z jC jN jS jQ jZ zv b hb mo hm hL X hr hlk hQ
  · refine g_lv [(0, .ref (x 0)), (1, .int (nI 1)), (2, .int zv), (3, .ref (y 0)), (4, .ref (y 1)), (5, .ref (y 2)), (6, .ref (y 4)), (7, .ref (y 5)), (8, .ref (y 7)), (9, .ref (y 9)), (10, .ref (y 12)), (11, .int (nI b))] [1, 2, 3, 4, 5, 6, 7, 8, 9, 10, 11, 0] rfl ?_
    exact n_tells_1 l D cI cJ cZ x y C N S Qk Z jC jN jS jQ jZ zv b hb mo hm hL X hr hlk hQ
  · refine g_lv [(0, .ref (x 0)), (1, .int (nI 2)), (2, .int zv), (3, .ref (y 0)), (4, .ref (y 1)), (5, .ref (y 2)), (6, .ref (y 4)), (7, .ref (y 5)), (8, .ref (y 7)), (9, .ref (y 9)), (10, .ref (y 12)), (11, .int (nI b))] [1, 2, 3, 4, 5, 6, 7, 8, 9, 10, 11, 0] rfl ?_
    exact n_tells_2 l D cI cJ cZ x y C N S Qk Z jC jN jS jQ jZ zv b hb mo hm hL X hr hlk hQ
  · refine g_lv [(0, .ref (x 0)), (1, .int (nI 3)), (2, .int zv), (3, .ref (y 0)), (4, .ref (y 1)), (5, .ref (y 2)), (6, .ref (y 4)), (7, .ref (y 5)), (8, .ref (y 7)), (9, .ref (y 9)), (10, .ref (y 12)), (11, .int (nI b))] [1, 2, 3, 4, 5, 6, 7, 8, 9, 10, 11, 0] rfl ?_
    exact n_tells_3 l D cI cJ cZ x y C N S Qk Z jC jN jS jQ jZ zv b hb mo hm hL X hr hlk hQ
  · refine g_lv [(0, .ref (x 0)), (1, .int (nI 4)), (2, .int zv), (3, .ref (y 0)), (4, .ref (y 1)), (5, .ref (y 2)), (6, .ref (y 4)), (7, .ref (y 5)), (8, .ref (y 7)), (9, .ref (y 9)), (10, .ref (y 12)), (11, .int (nI b))] [1, 2, 3, 4, 5, 6, 7, 8, 9, 10, 11, 0] rfl ?_
    exact n_tells_4 l D cI cJ cZ x y C N S Qk Z jC jN jS jQ jZ zv b hb mo hm hL X hr hlk hQ
  · refine g_lv [(0, .ref (x 0)), (1, .int (nI 5)), (2, .int zv), (3, .ref (y 0)), (4, .ref (y 1)), (5, .ref (y 2)), (6, .ref (y 4)), (7, .ref (y 5)), (8, .ref (y 7)), (9, .ref (y 9)), (10, .ref (y 12)), (11, .int (nI b))] [1, 2, 3, 4, 5, 6, 7, 8, 9, 10, 11, 0] rfl ?_
    exact n_tells_5 l D cI cJ cZ x y C N S Qk Z jC jN jS jQ jZ zv b hb mo hm hL X hr hlk hQ
  · refine g_lv [(0, .ref (x 0)), (1, .int (nI 6)), (2, .int zv), (3, .ref (y 0)), (4, .ref (y 1)), (5, .ref (y 2)), (6, .ref (y 4)), (7, .ref (y 5)), (8, .ref (y 7)), (9, .ref (y 9)), (10, .ref (y 12)), (11, .int (nI b))] [1, 2, 3, 4, 5, 6, 7, 8, 9, 10, 11, 0] rfl ?_
    exact n_tells_6 l D cI cJ cZ x y C N S Qk Z jC jN jS jQ jZ zv b hb mo hm hL X hr hlk hQ
  · refine g_lv [(0, .ref (x 0)), (1, .int (nI 7)), (2, .int zv), (3, .ref (y 0)), (4, .ref (y 1)), (5, .ref (y 2)), (6, .ref (y 4)), (7, .ref (y 5)), (8, .ref (y 7)), (9, .ref (y 9)), (10, .ref (y 12)), (11, .int (nI b))] [1, 2, 3, 4, 5, 6, 7, 8, 9, 10, 11, 0] rfl ?_
    exact n_tells_7 l D cI cJ cZ x y C N S Qk Z jC jN jS jQ jZ zv b hb mo hm hL X hr hlk hQ
  · refine g_lv [(0, .ref (x 0)), (1, .int (nI 8)), (2, .int zv), (3, .ref (y 0)), (4, .ref (y 1)), (5, .ref (y 2)), (6, .ref (y 4)), (7, .ref (y 5)), (8, .ref (y 7)), (9, .ref (y 9)), (10, .ref (y 12)), (11, .int (nI b))] [1, 2, 3, 4, 5, 6, 7, 8, 9, 10, 11, 0] rfl ?_
    exact n_tells_8 l D cI cJ cZ x y C N S Qk Z jC jN jS jQ jZ zv b hb mo hm hL X hr hlk hQ
  · refine g_lv [(0, .ref (x 0)), (1, .int (nI 9)), (2, .int zv), (3, .ref (y 0)), (4, .ref (y 1)), (5, .ref (y 2)), (6, .ref (y 4)), (7, .ref (y 5)), (8, .ref (y 7)), (9, .ref (y 9)), (10, .ref (y 12)), (11, .int (nI b))] [1, 2, 3, 4, 5, 6, 7, 8, 9, 10, 11, 0] rfl ?_
    exact n_tells_9 l D cI cJ cZ x y C N S Qk Z jC jN jS jQ jZ zv b hb mo hm hL X hr hlk hQ
