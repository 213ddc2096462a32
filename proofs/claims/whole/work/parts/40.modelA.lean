/-- a row copied from another -/
def cpy (src dst : Nat → Int64) (n : Nat) : Nat → Int64 := itr (fun i d => vp_updL d i (src i)) dst n
theorem cpy_at (src dst : Nat → Int64) : ∀ (n j : Nat), cpy src dst n j = if j < n then src j else dst j
  | 0, j => by
    rw [if_neg (by omega)]
    rfl
  | n + 1, j => by
    show vp_updL (cpy src dst n) n (src n) j = _
    by_cases h : j = n
    · subst h
      rw [if_pos (by omega)]
      exact if_pos rfl
    · rw [show vp_updL (cpy src dst n) n (src n) j = cpy src dst n j from if_neg h, cpy_at src dst n j]
      by_cases h2 : j < n
      · rw [if_pos h2, if_pos (by omega)]
      · rw [if_neg h2, if_neg (by omega)]
def cD3 (v q r : Int32) : Nat := if inB q (nI 0) (nI 11) = true then (if inB v (nI 0) (nI 24) = false then 2 else if inB r (nI 0) (nI 5) = true then 0 else 2) else 1
theorem cD3_3 (v q r : Int32) : cD3 v q r < 1000 := by unfold cD3; (repeat' split) <;> omega
theorem cD3_0 {v q r : Int32} (h : cD3 v q r = 0) : inB q (nI 0) (nI 11) = true ∧ inB v (nI 0) (nI 24) = true ∧ inB r (nI 0) (nI 5) = true := by
  unfold cD3 at h
  by_cases h1 : inB q (nI 0) (nI 11) = true
  · rw [if_pos h1] at h
    by_cases h2 : inB v (nI 0) (nI 24) = false
    · rw [if_pos h2] at h
      exact absurd h (by decide)
    · rw [if_neg h2] at h
      by_cases h3 : inB r (nI 0) (nI 5) = true
      · exact ⟨h1, by simpa using h2, h3⟩
      · rw [if_neg h3] at h
        exact absurd h (by decide)
  · rw [if_neg h1] at h
    exact absurd h (by decide)
theorem wMA_M {h : Nat → Nat} {cI cJ cZ : ClassId} {th : Int32} {C : Cf} {N : Nat → Nat} {R K P : Nat → Int64} {Y S : St} {Qk : Nat → Int64} (hf : ∀ j, j < 336 → R j = fl S Qk j) : g_sim (wMA h cI cJ cZ th C N R K P Y) (wM h cI cJ cZ th C N S Qk K P Y) := ⟨⟨rfl, Or.inl rfl⟩, g_seJ _ _ _ hf, g_sim.rfl' _⟩

theorem hV_X7_would : yX7_would.cls = RX7 ∧ yX7_would.cls ≠ "java/lang/invoke/MethodHandle" ∧ yX7_would.cls ≠ "java/lang/invoke/VarHandle" ∧ (parseMethodDescriptor yX7_would.desc).map (fun d => d.parameters.length) = some 3 := by decide +kernel
abbrev rm_X7_would : Room := { frames := 6, cells := 0, slots := 0, locals := 137 }
set_option maxRecDepth 100000 in
set_option maxHeartbeats 4000000 in
theorem m_X7_would (l : Launch) (D : va_G) (cI cJ cZ : ClassId) (h : Nat → Nat) (th : Int32) (C : Cf) (N : Nat → Nat) (S : St) (Qk K P : Nat → Int64) (Y : St) (v q r : Int32) (hC : Cok C N) (hR : Rok C) (hX : Xok C) (hI : ∀ i, i ≤ 24 → MonOk C N (mnS C N S i)) : g_Ct l D cI cJ cZ yX7_would cX7_would 7 (some .long) rm_X7_would 0 0 [.ref (h 0), .int v, .int q, .int r] (wM h cI cJ cZ th C N S Qk K P Y) (g_eq (some (.long (if cD3 v q r = 0 then tolM (mnS C N S (nN v)) (nN q) (nN r) else 0))) (wM h cI cJ cZ (nI (cD3 v q r)) C N S Qk (if cD3 v q r = 0 then cpy (fl S Qk) K 336 else K) (if cD3 v q r = 0 then mnP C N S P (nN v) else P) (if cD3 v q r = 0 then mnY C N S Y (nN v) else Y))) := by
  refine g_body RX7 [(0, .ref (h 0)), (1, .int v), (2, .int q), (3, .int r)] kH_X7 rfl (Nat.le_of_ble_eq_true rfl) rfl ?_
  intro p e s m args below meth c A X hr hlk hmn Q hQ
  refine g_aload_n X 0 dX7_would_0 rfl rfl ?_
  refine g_iload_n X 2 dX7_would_1 rfl rfl ?_
  refine g_callS X (As := [.int q]) (rest := [.ref (h 0)]) (m_X7_isBlock l D cI cJ cZ q ) kM_X7_91 kT_yX7_isBlock kZ_RX7 kC_yX7_isBlock hV_X7_isBlock rfl rfl rfl ⟨Nat.le_of_ble_eq_true rfl, Nat.le_of_ble_eq_true rfl⟩ ⟨Nat.le_of_ble_eq_true rfl, Nat.le_of_ble_eq_true rfl⟩ (Nat.le_of_ble_eq_true rfl) dX7_would_2 rfl [] rfl rfl (g_kk1 (w2 := wM h cI cJ cZ th C N S Qk K P Y) ⟨[], [0, 1, 2, 3, 4, 5, 6, 7, 8, 9, 10, 11, 12, 13, 14, 15, 16], [0, 1, 2, 3, 4, 5, 6, 7, 8, 9, 10, 11, 12, 13, 14, 15, 16], ([0, 1, 2, 3, 4, 5, 6, 7, 8, 9, 10, 11, 12, 13, 14, 15, 16].filterMap fun i => (wM h cI cJ cZ th C N S Qk K P Y)[i]?), rfl, rfl, rfl, rfl, by decide, rfl, rfl⟩ ?_)
  have J5 : ∀ (v4 : Nat), v4 = (if (inB q (nI 0) (nI 11)) = true then if (inB v (nI 0) (nI 24)) = false then 2 else if (inB r (nI 0) (nI 5)) = true then 0 else 2 else 1) → g_G p l e rm_X7_would s m args below meth c D A 7 0 0 Q (wM h cI cJ cZ th C N S Qk K P Y) [(0, .ref (h 0)), (1, .int v), (2, .int q), (3, .int r)] 36 [.int (nI v4), .ref (h 0)] := by
    intro v4 ev4
    have bv4 : v4 < 2147483648 := by subst ev4; (repeat' split) <;> omega
    replace ev4 := ev4.trans (show _ = cD3 v q r from rfl)
    obtain ⟨th6, eth6⟩ : ∃ z : Int32, z = nI v4 := ⟨_, rfl⟩
    refine g_put X (C := RX7) (T := TX7) (N := 21) (ws' := wM h cI cJ cZ th6 C N S Qk K P Y) inlX7 tyX7 tyX7_ok nmX7 0 rfl rfl 0 (Nat.le_of_ble_eq_true rfl) kF_X7_64 rfl rfl rfl (Nat.le_of_ble_eq_true rfl) dX7_would_36 (by rw [eth6]; first | done | (rfl)) ?_
    refine g_aload_n X 0 dX7_would_39 rfl rfl ?_
    refine g_get X (C := RX7) (T := TX7) (N := 21) (v := .int th6) inlX7 0 rfl rfl 0 (Nat.le_of_ble_eq_true rfl) kF_X7_64 rfl dX7_would_40 ?_
    refine g_if_le X (tgt := 48) dX7_would_43 (by decide) (fun h7 => ?_) (fun h7 => ?_)
    · --
      have hc0 : cD3 v q r = 0 := le0_n (cD3_3 _ _ _) (by rw [← ev4, ← eth6]; assumption)
      have hk0 := cD3_0 hc0
      obtain ⟨hvn, evn⟩ := inB_n (by decide) hk0.2.1
      obtain ⟨hqn, eqn⟩ := inB_n (by decide) hk0.1
      obtain ⟨hrn, ern⟩ := inB_n (by decide) hk0.2.2
      refine g_lvq (lv' := [(0, .ref (h 0)), (1, .int (nI (nN v))), (2, .int (nI (nN q))), (3, .int (nI (nN r)))]) (by rw [← evn]; rw [← eqn]; rw [← ern]; first | done | rfl) ?_
      refine g_iconst X (v := nI 0) dX7_would_48 (by decide +kernel) ?_
      refine g_istore X [(4, .int (nI 0)), (0, .ref (h 0)), (1, .int (nI (nN v))), (2, .int (nI (nN q))), (3, .int (nI (nN r)))] dX7_would_49 (Nat.le_of_ble_eq_true rfl) rfl ?_
      have L8 : ∀ (n10 i9 : Nat) (K11 : Nat → Int64), i9 + n10 = 336 → K11 = cpy (fl S Qk) K i9 → g_G p l e rm_X7_would s m args below meth c D A 7 0 0 Q (wM h cI cJ cZ th6 C N S Qk K11 P Y) [(0, .ref (h 0)), (1, .int (nI (nN v))), (2, .int (nI (nN q))), (3, .int (nI (nN r))), (4, .int (nI i9))] 51 [] := by
        intro n10
        induction n10 with
        | zero =>
          intro i9 K11 hi12 eK11
          obtain rfl : i9 = 336 := by omega
          refine g_iload X 4 dX7_would_51 rfl ?_
          refine g_sipush X (v := nI 336) dX7_would_53 (by decide +kernel) ?_
          refine g_icN_ge X (a := 336) (b := 336) (tgt := 79) (by omega) (by omega) dX7_would_56 (by decide) (fun h13 => ?_) (fun h13 => absurd h13 (by omega))
          refine g_iconst X (v := nI 0) dX7_would_79 (by decide +kernel) ?_
          refine g_istore X [(4, .int (nI 0)), (0, .ref (h 0)), (1, .int (nI (nN v))), (2, .int (nI (nN q))), (3, .int (nI (nN r)))] dX7_would_80 (Nat.le_of_ble_eq_true rfl) rfl ?_
          have L14 : ∀ (n16 i15 : Nat) (S17 : St) (Qk18 : Nat → Int64) (P19 : Nat → Int64) (Y20 : St), i15 + n16 = (nN v) → S17 = mnS C N S i15 → Qk18 = mnQ C N S Qk i15 → P19 = mnP C N S P i15 → Y20 = mnY C N S Y i15 → g_G p l e rm_X7_would s m args below meth c D A 7 0 0 Q (wM h cI cJ cZ th6 C N S17 Qk18 K11 P19 Y20) [(0, .ref (h 0)), (1, .int (nI (nN v))), (2, .int (nI (nN q))), (3, .int (nI (nN r))), (4, .int (nI i15))] 82 [] := by
            intro n16
            induction n16 with
            | zero =>
              intro i15 S17 Qk18 P19 Y20 hi21 eS17 eQk18 eP19 eY20
              obtain rfl : i15 = (nN v) := by omega
              refine g_iload X 4 dX7_would_82 rfl ?_
              refine g_iload_n X 1 dX7_would_84 rfl rfl ?_
              refine g_icN_ge X (a := (nN v)) (b := nN v) (tgt := 98) (by omega) (by omega) dX7_would_85 (by decide) (fun h22 => ?_) (fun h22 => absurd h22 (by omega))
              refine g_aload_n X 0 dX7_would_98 rfl rfl ?_
              refine g_iload_n X 2 dX7_would_99 rfl rfl ?_
              refine g_iload_n X 3 dX7_would_100 rfl rfl ?_
              refine g_callV X (As := [.int (nI (nN q)), .int (nI (nN r))]) (rest := []) (m_X7_told l D cI cJ cZ h th6 C N S17 Qk18 K11 P19 Y20 (nN q) (nN r) hqn hrn (by rw [eS17]; exact (hI _ (by omega)).wok)) kM_X7_188 kI_yX7_told kS_yX7_told kZ_RX7 kC_yX7_told hV_X7_told rfl rfl rfl 0 rfl (ci := 7) rfl ⟨Nat.le_of_ble_eq_true rfl, Nat.le_of_ble_eq_true rfl⟩ ⟨Nat.le_of_ble_eq_true rfl, Nat.le_of_ble_eq_true rfl⟩ (Nat.le_of_ble_eq_true rfl) dX7_would_101 rfl [0, 1, 2, 3, 4, 5, 6, 7, 8, 9, 10, 11, 12, 13, 14, 15, 16] rfl rfl (g_kk1 (w2 := wM h cI cJ cZ th6 C N S17 Qk18 K11 P19 Y20) ⟨[0, 1, 2, 3, 4, 5, 6, 7, 8, 9, 10, 11, 12, 13, 14, 15, 16], [], [0, 1, 2, 3, 4, 5, 6, 7, 8, 9, 10, 11, 12, 13, 14, 15, 16], [], rfl, rfl, rfl, rfl, by decide, rfl, rfl⟩ ?_)
              refine g_lstore X [(4, .long (tolM S17 (nN q) (nN r))), (0, .ref (h 0)), (1, .int (nI (nN v))), (2, .int (nI (nN q))), (3, .int (nI (nN r)))] dX7_would_104 (Nat.le_of_ble_eq_true rfl) rfl ?_
              obtain ⟨R23, eR23⟩ : ∃ z : Nat → Int64, z = fl S17 Qk18 := ⟨_, rfl⟩
              refine g_ws (ws' := wMA h cI cJ cZ th6 C N R23 K11 P19 Y20) (by rw [eR23]; rfl) ?_
              refine g_iconst X (v := nI 0) dX7_would_106 (by decide +kernel) ?_
              refine g_istore X [(6, .int (nI 0)), (4, .long (tolM S17 (nN q) (nN r))), (0, .ref (h 0)), (1, .int (nI (nN v))), (2, .int (nI (nN q))), (3, .int (nI (nN r)))] dX7_would_107 (Nat.le_of_ble_eq_true rfl) rfl ?_
              have L24 : ∀ (n26 i25 : Nat) (R27 : Nat → Int64), i25 + n26 = 336 → R27 = cpy K11 R23 i25 → g_G p l e rm_X7_would s m args below meth c D A 7 0 0 Q (wMA h cI cJ cZ th6 C N R27 K11 P19 Y20) [(0, .ref (h 0)), (4, .long (tolM S17 (nN q) (nN r))), (6, .int (nI i25))] 109 [] := by
                intro n26
                induction n26 with
                | zero =>
                  intro i25 R27 hi28 eR27
                  obtain rfl : i25 = 336 := by omega
                  refine g_iload X 2 dX7_would_109 rfl ?_
                  refine g_sipush X (v := nI 336) dX7_would_111 (by decide +kernel) ?_
                  refine g_icN_ge X (a := 336) (b := 336) (tgt := 137) (by omega) (by omega) dX7_would_114 (by decide) (fun h29 => ?_) (fun h29 => absurd h29 (by omega))
                  refine g_cg (ws' := wM h cI cJ cZ th6 C N S Qk K11 P19 Y20) (wMA_M (fun j hj => by (try rw [eR27]); (try rw [eR23]); (try rw [eY20]); (try rw [eP19]); (try rw [eQk18]); (try rw [eS17]); (try rw [eK11]); (try rw [eth6]); (try rw [ev4]); rw [cpy_at, if_pos hj, cpy_at, if_pos hj])) ?_
                  refine g_lload X 1 dX7_would_137 rfl ?_
                  refine g_lret X hr hlk hQ dX7_would_139 ?_
                  show g_eq _ _ _ _
                  try rw [eR27]
                  try rw [eR23]
                  try rw [eY20]
                  try rw [eP19]
                  try rw [eQk18]
                  try rw [eS17]
                  try rw [eK11]
                  try rw [eth6]
                  try rw [ev4]
                  refine ⟨?_, ?_⟩ <;> repeat rw [if_pos hc0]
                | succ n26 ihL24 =>
                  intro i25 R27 hi28 eR27
                  have hlti25 : i25 < 336 := by omega
                  refine g_iload X 2 dX7_would_109 rfl ?_
                  refine g_sipush X (v := nI 336) dX7_would_111 (by decide +kernel) ?_
                  refine g_icN_ge X (a := i25) (b := 336) (tgt := 137) (by omega) (by omega) dX7_would_114 (by decide) (fun h30 => absurd h30 (by omega)) (fun h30 => ?_)
                  refine g_aload_n X 0 dX7_would_117 rfl rfl ?_
                  refine g_get X (C := RX7) (T := TX7) (N := 21) (v := .ref (h 1)) inlX7 0 rfl rfl 1 (Nat.le_of_ble_eq_true rfl) kF_X7_7 rfl dX7_would_118 ?_
                  refine g_iload X 2 dX7_would_121 rfl ?_
                  refine g_aload_n X 0 dX7_would_123 rfl rfl ?_
                  refine g_get X (C := RX7) (T := TX7) (N := 21) (v := .ref (h 2)) inlX7 0 rfl rfl 2 (Nat.le_of_ble_eq_true rfl) kF_X7_13 rfl dX7_would_124 ?_
                  refine g_iload X 2 dX7_would_127 rfl ?_
                  refine g_lald X 2 rfl (i25) rfl (by omega) (Nat.le_of_ble_eq_true rfl) (v := K11 i25) rfl dX7_would_129 ?_
                  obtain ⟨R31, eR31⟩ : ∃ z : Nat → Int64, z = vp_updL R27 i25 (K11 i25) := ⟨_, rfl⟩
                  refine g_last X (ws' := wMA h cI cJ cZ th6 C N R31 K11 P19 Y20) 1 rfl (i25) rfl (by omega) (Nat.le_of_ble_eq_true rfl) dX7_would_130 (by rw [eR31]; first | done | (rfl)) ?_
                  refine g_iinc X [(6, .int (nI (i25 + 1))), (0, .ref (h 0)), (4, .long (tolM S17 (nN q) (nN r)))] (q := 2) (v := nI (i25 + 1)) dX7_would_131 rfl ((congrArg (fun z => nI (i25) + z) (show Int32.ofInt 1 = nI 1 by decide +kernel)).trans ((nI_add _ _).trans (congrArg nI (by omega)))) (Nat.le_of_ble_eq_true rfl) rfl ?_
                  refine g_goto X (tgt := 109) dX7_would_134 (by decide) ?_
                  refine g_lv _ [1, 2, 0] rfl ?_
                  exact ihL24 (i25 + 1) _ (by omega) (by (try rw [eR31]); (try rw [eR27]); first | done | (rfl))
              refine g_lv _ [2, 1, 0] rfl ?_
              exact L24 (336) 0 _ (by omega) (by first | rfl | ((try rw [eR23]); (try rw [eY20]); (try rw [eP19]); (try rw [eQk18]); (try rw [eS17]); (try rw [eK11]); (try rw [eth6]); (try rw [ev4]); first | done | rfl))
            | succ n16 ihL14 =>
              intro i15 S17 Qk18 P19 Y20 hi21 eS17 eQk18 eP19 eY20
              have hlti15 : i15 < (nN v) := by omega
              obtain ⟨k, hWk, hk0, hk1, hWe, hmo, hqo, hBo⟩ := hI i15 (by omega)
              rw [← eS17] at hWk hWe hmo hqo hBo
              refine g_iload X 4 dX7_would_82 rfl ?_
              refine g_iload_n X 1 dX7_would_84 rfl rfl ?_
              refine g_icN_ge X (a := i15) (b := nN v) (tgt := 98) (by omega) (by omega) dX7_would_85 (by decide) (fun h32 => absurd h32 (by omega)) (fun h32 => ?_)
              refine g_aload_n X 0 dX7_would_88 rfl rfl ?_
              obtain ⟨S33, eS33⟩ : ∃ z : St, z = monS C N S17 := ⟨_, rfl⟩
              obtain ⟨Qk34, eQk34⟩ : ∃ z : Nat → Int64, z = monQ C N S17 Qk18 := ⟨_, rfl⟩
              obtain ⟨P35, eP35⟩ : ∃ z : Nat → Int64, z = monP C N S17 P19 := ⟨_, rfl⟩
              obtain ⟨Y36, eY36⟩ : ∃ z : St, z = monY C N S17 Y20 := ⟨_, rfl⟩
              refine g_callV X (As := []) (rest := []) (m_X7_month l D cI cJ cZ h th6 C N S17 Qk18 K11 P19 Y20 k hC hR hWk hk0 hk1 hWe hmo hqo hBo hX) kM_X7_185 kI_yX7_month kS_yX7_month kZ_RX7 kC_yX7_month hV_X7_month rfl rfl rfl 0 rfl (ci := 7) rfl ⟨Nat.le_of_ble_eq_true rfl, Nat.le_of_ble_eq_true rfl⟩ ⟨Nat.le_of_ble_eq_true rfl, Nat.le_of_ble_eq_true rfl⟩ (Nat.le_of_ble_eq_true rfl) dX7_would_89 rfl [0, 1, 2, 3, 4, 5, 6, 7, 8, 9, 10, 11, 12, 13, 14, 15, 16] rfl rfl (g_kk1 (w2 := wM h cI cJ cZ th6 C N S33 Qk34 K11 P35 Y36) (by rw [eY36]; rw [eP35]; rw [eQk34]; rw [eS33]; exact ⟨[0, 1, 2, 3, 4, 5, 6, 7, 8, 9, 10, 11, 12, 13, 14, 15, 16], [], [0, 1, 2, 3, 4, 5, 6, 7, 8, 9, 10, 11, 12, 13, 14, 15, 16], [], rfl, rfl, rfl, rfl, by decide, rfl, rfl⟩) ?_)
              refine g_iinc X [(4, .int (nI (i15 + 1))), (0, .ref (h 0)), (1, .int (nI (nN v))), (2, .int (nI (nN q))), (3, .int (nI (nN r)))] (q := 4) (v := nI (i15 + 1)) dX7_would_92 rfl ((congrArg (fun z => nI (i15) + z) (show Int32.ofInt 1 = nI 1 by decide +kernel)).trans ((nI_add _ _).trans (congrArg nI (by omega)))) (Nat.le_of_ble_eq_true rfl) rfl ?_
              refine g_goto X (tgt := 82) dX7_would_95 (by decide) ?_
              refine g_lv _ [1, 2, 3, 4, 0] rfl ?_
              exact ihL14 (i15 + 1) _ _ _ _ (by omega) (by (try rw [eY36]); (try rw [eP35]); (try rw [eQk34]); (try rw [eS33]); (try rw [eY20]); (try rw [eP19]); (try rw [eQk18]); (try rw [eS17]); first | done | (rw [mnS_s])) (by (try rw [eY36]); (try rw [eP35]); (try rw [eQk34]); (try rw [eS33]); (try rw [eY20]); (try rw [eP19]); (try rw [eQk18]); (try rw [eS17]); first | done | (rw [mnQ_s])) (by (try rw [eY36]); (try rw [eP35]); (try rw [eQk34]); (try rw [eS33]); (try rw [eY20]); (try rw [eP19]); (try rw [eQk18]); (try rw [eS17]); first | done | (rw [mnP_s])) (by (try rw [eY36]); (try rw [eP35]); (try rw [eQk34]); (try rw [eS33]); (try rw [eY20]); (try rw [eP19]); (try rw [eQk18]); (try rw [eS17]); first | done | (rw [mnY_s]))
          refine g_lv _ [1, 2, 3, 4, 0] rfl ?_
          exact L14 ((nN v)) 0 _ _ _ _ (by omega) (mnS_0 _ _ _).symm (mnQ_0 _ _ _ _).symm (mnP_0 _ _ _ _).symm (mnY_0 _ _ _ _).symm
        | succ n10 ihL8 =>
          intro i9 K11 hi12 eK11
          have hlti9 : i9 < 336 := by omega
          refine g_iload X 4 dX7_would_51 rfl ?_
          refine g_sipush X (v := nI 336) dX7_would_53 (by decide +kernel) ?_
          refine g_icN_ge X (a := i9) (b := 336) (tgt := 79) (by omega) (by omega) dX7_would_56 (by decide) (fun h37 => absurd h37 (by omega)) (fun h37 => ?_)
          refine g_aload_n X 0 dX7_would_59 rfl rfl ?_
          refine g_get X (C := RX7) (T := TX7) (N := 21) (v := .ref (h 2)) inlX7 0 rfl rfl 2 (Nat.le_of_ble_eq_true rfl) kF_X7_13 rfl dX7_would_60 ?_
          refine g_iload X 4 dX7_would_63 rfl ?_
          refine g_aload_n X 0 dX7_would_65 rfl rfl ?_
          refine g_get X (C := RX7) (T := TX7) (N := 21) (v := .ref (h 1)) inlX7 0 rfl rfl 1 (Nat.le_of_ble_eq_true rfl) kF_X7_7 rfl dX7_would_66 ?_
          refine g_iload X 4 dX7_would_69 rfl ?_
          refine g_lald X 1 rfl (i9) rfl (by omega) (Nat.le_of_ble_eq_true rfl) (v := fl S Qk i9) rfl dX7_would_71 ?_
          obtain ⟨K38, eK38⟩ : ∃ z : Nat → Int64, z = vp_updL K11 i9 (fl S Qk i9) := ⟨_, rfl⟩
          refine g_last X (ws' := wM h cI cJ cZ th6 C N S Qk K38 P Y) 2 rfl (i9) rfl (by omega) (Nat.le_of_ble_eq_true rfl) dX7_would_72 (by rw [eK38]; first | done | (rfl)) ?_
          refine g_iinc X [(4, .int (nI (i9 + 1))), (0, .ref (h 0)), (1, .int (nI (nN v))), (2, .int (nI (nN q))), (3, .int (nI (nN r)))] (q := 4) (v := nI (i9 + 1)) dX7_would_73 rfl ((congrArg (fun z => nI (i9) + z) (show Int32.ofInt 1 = nI 1 by decide +kernel)).trans ((nI_add _ _).trans (congrArg nI (by omega)))) (Nat.le_of_ble_eq_true rfl) rfl ?_
          refine g_goto X (tgt := 51) dX7_would_76 (by decide) ?_
          refine g_lv _ [1, 2, 3, 4, 0] rfl ?_
          exact ihL8 (i9 + 1) _ (by omega) (by (try rw [eK38]); (try rw [eK11]); first | done | (rfl))
      refine g_lv _ [1, 2, 3, 4, 0] rfl ?_
      exact L8 (336) 0 _ (by omega) (by first | rfl | ((try rw [eth6]); (try rw [ev4]); first | done | rfl))
    · --
      have hc1 : ¬ cD3 v q r = 0 := fun z => absurd (show th6 ≤ 0 by rw [eth6, ev4, z]; decide) (by assumption)
      refine g_lconst X (v := 0) dX7_would_46 (by decide +kernel) ?_
      refine g_lret X hr hlk hQ dX7_would_47 ?_
      show g_eq _ _ _ _
      try rw [eth6]
      try rw [ev4]
      refine ⟨?_, ?_⟩ <;> repeat rw [if_neg hc1]
  refine g_bI_ne X (tgt := 12) dX7_would_5 (by decide) (fun h1 => ?_) (fun h1 => ?_)
  · --
    refine g_iload_n X 1 dX7_would_12 rfl rfl ?_
    refine g_iconst X (v := nI 0) dX7_would_13 (by decide +kernel) ?_
    refine g_bipush X (v := nI 24) dX7_would_14 (by decide +kernel) ?_
    refine g_callS X (As := [.int v, .int (nI 0), .int (nI 24)]) (rest := [.ref (h 0)]) (m_X7_in l D cI cJ cZ v (nI 0) (nI 24) ) kM_X7_68 kT_yX7_in kZ_RX7 kC_yX7_in hV_X7_in rfl rfl rfl ⟨Nat.le_of_ble_eq_true rfl, Nat.le_of_ble_eq_true rfl⟩ ⟨Nat.le_of_ble_eq_true rfl, Nat.le_of_ble_eq_true rfl⟩ (Nat.le_of_ble_eq_true rfl) dX7_would_16 rfl [] rfl rfl (g_kk1 (w2 := wM h cI cJ cZ th C N S Qk K P Y) ⟨[], [0, 1, 2, 3, 4, 5, 6, 7, 8, 9, 10, 11, 12, 13, 14, 15, 16], [0, 1, 2, 3, 4, 5, 6, 7, 8, 9, 10, 11, 12, 13, 14, 15, 16], ([0, 1, 2, 3, 4, 5, 6, 7, 8, 9, 10, 11, 12, 13, 14, 15, 16].filterMap fun i => (wM h cI cJ cZ th C N S Qk K P Y)[i]?), rfl, rfl, rfl, rfl, by decide, rfl, rfl⟩ ?_)
    refine g_bI_eq X (tgt := 31) dX7_would_19 (by decide) (fun h2 => ?_) (fun h2 => ?_)
    · --
      refine g_iconst X (v := nI 2) dX7_would_31 (by decide +kernel) ?_
      refine g_goto X (tgt := 36) dX7_would_32 (by decide) ?_
      exact J5 _ (by rw [if_pos (c := (inB q (nI 0) (nI 11)) = true) h1, if_pos (c := (inB v (nI 0) (nI 24)) = false) h2])
    · --
      refine g_iload_n X 3 dX7_would_22 rfl rfl ?_
      refine g_iconst X (v := nI 0) dX7_would_23 (by decide +kernel) ?_
      refine g_iconst X (v := nI 5) dX7_would_24 (by decide +kernel) ?_
      refine g_callS X (As := [.int r, .int (nI 0), .int (nI 5)]) (rest := [.ref (h 0)]) (m_X7_in l D cI cJ cZ r (nI 0) (nI 5) ) kM_X7_68 kT_yX7_in kZ_RX7 kC_yX7_in hV_X7_in rfl rfl rfl ⟨Nat.le_of_ble_eq_true rfl, Nat.le_of_ble_eq_true rfl⟩ ⟨Nat.le_of_ble_eq_true rfl, Nat.le_of_ble_eq_true rfl⟩ (Nat.le_of_ble_eq_true rfl) dX7_would_25 rfl [] rfl rfl (g_kk1 (w2 := wM h cI cJ cZ th C N S Qk K P Y) ⟨[], [0, 1, 2, 3, 4, 5, 6, 7, 8, 9, 10, 11, 12, 13, 14, 15, 16], [0, 1, 2, 3, 4, 5, 6, 7, 8, 9, 10, 11, 12, 13, 14, 15, 16], ([0, 1, 2, 3, 4, 5, 6, 7, 8, 9, 10, 11, 12, 13, 14, 15, 16].filterMap fun i => (wM h cI cJ cZ th C N S Qk K P Y)[i]?), rfl, rfl, rfl, rfl, by decide, rfl, rfl⟩ ?_)
      refine g_bI_ne X (tgt := 35) dX7_would_28 (by decide) (fun h3 => ?_) (fun h3 => ?_)
      · --
        refine g_iconst X (v := nI 0) dX7_would_35 (by decide +kernel) ?_
        exact J5 _ (by rw [if_pos (c := (inB q (nI 0) (nI 11)) = true) h1, if_neg (c := (inB v (nI 0) (nI 24)) = false) (by rw [h2]; decide), if_pos (c := (inB r (nI 0) (nI 5)) = true) h3])
      · --
        refine g_iconst X (v := nI 2) dX7_would_31 (by decide +kernel) ?_
        refine g_goto X (tgt := 36) dX7_would_32 (by decide) ?_
        exact J5 _ (by rw [if_pos (c := (inB q (nI 0) (nI 11)) = true) h1, if_neg (c := (inB v (nI 0) (nI 24)) = false) (by rw [h2]; decide), if_neg (c := (inB r (nI 0) (nI 5)) = true) (by rw [h3]; decide)])
  · --
    refine g_iconst X (v := nI 1) dX7_would_8 (by decide +kernel) ?_
    refine g_goto X (tgt := 36) dX7_would_9 (by decide) ?_
    exact J5 _ (by rw [if_neg (c := (inB q (nI 0) (nI 11)) = true) (by rw [h1]; decide)])
