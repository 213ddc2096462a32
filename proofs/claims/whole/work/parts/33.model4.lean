/-! giving back, as the reference has it -/
theorem vpl_same (P : Nat → Int64) (i : Nat) (x : Int64) : vp_updL P i x i = x := if_pos rfl
def wgM (C : Cf) (S : St) (n : Nat) : Int64 := itr (fun w a => a + (if C 3 w = 0 then 0 else if ¬ S 6 w = 0 then 0 else (C 4 w).toInt64)) 0 n
def ptA (C : Cf) (S : St) (br W : Int64) (w : Nat) : Int64 := if C 3 w = 0 then 0 else if ¬ S 6 w = 0 then 0 else if W ≤ 0 then 0 else br * (C 4 w).toInt64 / W
def ptB (C : Cf) (S : St) (br W : Int64) (w : Nat) : Int64 := if C 3 w = 0 then ptA C S br W w else if ¬ lig S (plN C w) = 1 then ptA C S br W w else ptA C S br W w / 2
def ptP (C : Cf) (S : St) (br W : Int64) (w : Nat) (P : Nat → Int64) : Nat → Int64 := vp_updL (vp_updL P w (ptA C S br W w)) w (ptB C S br W w)
def lfM (C : Cf) (S : St) (br W : Int64) (n : Nat) : Int64 := itr (fun w a => a - ptB C S br W w) br n
def gc1 (P : Nat → Int64) (w : Nat) (S : St) : St := u2 S 5 w (P w)
def gc2 (b : Nat) (x : Int64) (S : St) : St := u2 S 0 b (S 0 b + x)
def gc3 (b : Nat) (x : Int64) (S : St) : St := u2 S 1 b (S 1 b + x)
def gc4 (b : Nat) (x : Int64) (S : St) : St := u2 S 3 b (S 3 b + x)
def gbM (C : Cf) (P : Nat → Int64) (hot : Int64) (w : Nat) (S : St) : St := if C 3 w = 0 then S else gc4 (plN C w) (P w) (gc3 (plN C w) (P w * hot) (gc2 (plN C w) (P w) (gc1 P w S)))
def rtP (C : Cf) (N : Nat → Nat) (S : St) (P : Nat → Int64) (br : Int64) : Nat → Int64 := itr (ptP C S br (wgM C S (N 0))) P (N 0)
def rtS (C : Cf) (N : Nat → Nat) (S : St) (P : Nat → Int64) (br hot : Int64) : St := itr (gbM C (rtP C N S P br) hot) (u2 S 12 2 (S 12 2 + lfM C S br (wgM C S (N 0)) (N 0))) (N 0)

theorem hV_X7_returns : yX7_returns.cls = RX7 ∧ yX7_returns.cls ≠ "java/lang/invoke/MethodHandle" ∧ yX7_returns.cls ≠ "java/lang/invoke/VarHandle" ∧ (parseMethodDescriptor yX7_returns.desc).map (fun d => d.parameters.length) = some 2 := by decide +kernel
abbrev rm_X7_returns : Room := { frames := 1, cells := 0, slots := 0, locals := 21 }
set_option maxRecDepth 100000 in
set_option maxHeartbeats 4000000 in
theorem m_X7_returns (l : Launch) (D : va_G) (cI cJ cZ : ClassId) (h : Nat → Nat) (th : Int32) (C : Cf) (N : Nat → Nat) (S : St) (Qk K P : Nat → Int64) (Y : St) (br hot : Int64) (hC : Cok C N) : g_Ct l D cI cJ cZ yX7_returns cX7_returns 10 none rm_X7_returns 0 0 [.ref (h 0), .long br, .long hot] (wM h cI cJ cZ th C N S Qk K P Y) (g_eq none (wM h cI cJ cZ th C N (rtS C N S P br hot) Qk K (rtP C N S P br) Y)) := by
  refine g_body RX7 [(0, .ref (h 0)), (1, .long br), (3, .long hot)] kH_X7 rfl (Nat.le_of_ble_eq_true rfl) rfl ?_
  intro p e s m args below meth c A X hr hlk hmn Q hQ
  have hN0 := hC.n0
  have hN1 := hC.n1
  have hN2 := hC.n2
  refine g_lconst X (v := 0) dX7_returns_0 (by decide +kernel) ?_
  refine g_lstore X [(5, .long (0 : Int64)), (0, .ref (h 0)), (1, .long br), (3, .long hot)] dX7_returns_1 (Nat.le_of_ble_eq_true rfl) rfl ?_
  refine g_iconst X (v := nI 0) dX7_returns_3 (by decide +kernel) ?_
  refine g_istore X [(7, .int (nI 0)), (5, .long (0 : Int64)), (0, .ref (h 0)), (1, .long br), (3, .long hot)] dX7_returns_4 (Nat.le_of_ble_eq_true rfl) rfl ?_
  have L1 : ∀ (n3 i2 : Nat) (a4 : Int64), i2 + n3 = (N 0) → a4 = wgM C S i2 → g_G p l e rm_X7_returns s m args below meth c D A 10 0 0 Q (wM h cI cJ cZ th C N S Qk K P Y) [(0, .ref (h 0)), (1, .long br), (3, .long hot), (5, .long a4), (7, .int (nI i2))] 6 [] := by
    intro n3
    induction n3 with
    | zero =>
      intro i2 a4 hi5 ea4
      obtain rfl : i2 = (N 0) := by omega
      refine g_iload X 4 dX7_returns_6 rfl ?_
      refine g_aload_n X 0 dX7_returns_8 rfl rfl ?_
      refine g_get X (C := RX7) (T := TX7) (N := 21) (v := .int (nI (N 0))) inlX7 0 rfl rfl 6 (Nat.le_of_ble_eq_true rfl) kF_X7_72 rfl dX7_returns_9 ?_
      refine g_icN_ge X (a := (N 0)) (b := N 0) (tgt := 63) (by omega) (by omega) dX7_returns_12 (by decide) (fun h6 => ?_) (fun h6 => absurd h6 (by omega))
      refine g_lload_n X 1 dX7_returns_63 rfl rfl ?_
      refine g_lstore X [(7, .long br), (0, .ref (h 0)), (1, .long br), (3, .long hot), (5, .long a4)] dX7_returns_64 (Nat.le_of_ble_eq_true rfl) rfl ?_
      refine g_iconst X (v := nI 0) dX7_returns_66 (by decide +kernel) ?_
      refine g_istore X [(9, .int (nI 0)), (7, .long br), (0, .ref (h 0)), (1, .long br), (3, .long hot), (5, .long a4)] dX7_returns_67 (Nat.le_of_ble_eq_true rfl) rfl ?_
      have L7 : ∀ (n9 i8 : Nat) (P10 : Nat → Int64) (a11 : Int64), i8 + n9 = (N 0) → P10 = itr (ptP C S br a4) P i8 → a11 = lfM C S br a4 i8 → g_G p l e rm_X7_returns s m args below meth c D A 10 0 0 Q (wM h cI cJ cZ th C N S Qk K P10 Y) [(0, .ref (h 0)), (1, .long br), (3, .long hot), (5, .long a4), (7, .long a11), (9, .int (nI i8))] 69 [] := by
        intro n9
        induction n9 with
        | zero =>
          intro i8 P10 a11 hi12 eP10 ea11
          obtain rfl : i8 = (N 0) := by omega
          refine g_iload X 5 dX7_returns_69 rfl ?_
          refine g_aload_n X 0 dX7_returns_71 rfl rfl ?_
          refine g_get X (C := RX7) (T := TX7) (N := 21) (v := .int (nI (N 0))) inlX7 0 rfl rfl 6 (Nat.le_of_ble_eq_true rfl) kF_X7_72 rfl dX7_returns_72 ?_
          refine g_icN_ge X (a := (N 0)) (b := N 0) (tgt := 205) (by omega) (by omega) dX7_returns_75 (by decide) (fun h13 => ?_) (fun h13 => absurd h13 (by omega))
          refine g_aload_n X 0 dX7_returns_205 rfl rfl ?_
          refine g_get X (C := RX7) (T := TX7) (N := 21) (v := .ref (h 1)) inlX7 0 rfl rfl 1 (Nat.le_of_ble_eq_true rfl) kF_X7_7 rfl dX7_returns_206 ?_
          refine g_sipush X (v := nI 148) dX7_returns_209 (by decide +kernel) ?_
          refine g_dup2_11 X dX7_returns_212 rfl rfl ?_
          refine g_lald X 1 rfl (146 + 2) (congrArg nI (show 148 = 146 + 2 by omega)) (by omega) (Nat.le_of_ble_eq_true rfl) (v := S 12 2) (fl_12 _ _ (i := 2) (by omega)) dX7_returns_213 ?_
          refine g_lload X 4 dX7_returns_214 rfl ?_
          refine g_ladd X (v := (S 12 2) + a11) dX7_returns_216 rfl ?_
          obtain ⟨S14, eS14⟩ : ∃ z : St, z = u2 S 12 2 ((S 12 2) + a11) := ⟨_, rfl⟩
          refine g_last X (ws' := wM h cI cJ cZ th C N S14 Qk K P10 Y) 1 rfl (146 + 2) (congrArg nI (show 148 = 146 + 2 by omega)) (by omega) (Nat.le_of_ble_eq_true rfl) dX7_returns_217 (by rw [eS14]; first | done | (rw [flu_12 _ _ (i := 2) _ (by omega)]; rfl)) ?_
          refine g_iconst X (v := nI 0) dX7_returns_218 (by decide +kernel) ?_
          refine g_istore X [(9, .int (nI 0)), (0, .ref (h 0)), (1, .long br), (3, .long hot), (5, .long a4), (7, .long a11)] dX7_returns_219 (Nat.le_of_ble_eq_true rfl) rfl ?_
          have L15 : ∀ (n17 i16 : Nat) (S18 : St), i16 + n17 = (N 0) → S18 = itr (gbM C P10 hot) S14 i16 → g_G p l e rm_X7_returns s m args below meth c D A 10 0 0 Q (wM h cI cJ cZ th C N S18 Qk K P10 Y) [(0, .ref (h 0)), (3, .long hot), (9, .int (nI i16))] 221 [] := by
            intro n17
            induction n17 with
            | zero =>
              intro i16 S18 hi19 eS18
              obtain rfl : i16 = (N 0) := by omega
              refine g_iload X 2 dX7_returns_221 rfl ?_
              refine g_aload_n X 0 dX7_returns_223 rfl rfl ?_
              refine g_get X (C := RX7) (T := TX7) (N := 21) (v := .int (nI (N 0))) inlX7 0 rfl rfl 6 (Nat.le_of_ble_eq_true rfl) kF_X7_72 rfl dX7_returns_224 ?_
              refine g_icN_ge X (a := (N 0)) (b := N 0) (tgt := 339) (by omega) (by omega) dX7_returns_227 (by decide) (fun h20 => ?_) (fun h20 => absurd h20 (by omega))
              refine g_vret X hr hlk hQ dX7_returns_339 ?_
              show g_eq _ _ _ _
              try rw [eS18]
              try rw [eS14]
              try rw [ea11]
              try rw [eP10]
              try rw [ea4]
              exact ⟨rfl, rfl⟩
            | succ n17 ihL15 =>
              intro i16 S18 hi19 eS18
              have hlti16 : i16 < (N 0) := by omega
              have hpl := (hC.pl hlti16).2
              refine g_iload X 2 dX7_returns_221 rfl ?_
              refine g_aload_n X 0 dX7_returns_223 rfl rfl ?_
              refine g_get X (C := RX7) (T := TX7) (N := 21) (v := .int (nI (N 0))) inlX7 0 rfl rfl 6 (Nat.le_of_ble_eq_true rfl) kF_X7_72 rfl dX7_returns_224 ?_
              refine g_icN_ge X (a := i16) (b := N 0) (tgt := 339) (by omega) (by omega) dX7_returns_227 (by decide) (fun h21 => absurd h21 (by omega)) (fun h21 => ?_)
              refine g_aload_n X 0 dX7_returns_230 rfl rfl ?_
              refine g_get X (C := RX7) (T := TX7) (N := 21) (v := .ref (h 6)) inlX7 0 rfl rfl 8 (Nat.le_of_ble_eq_true rfl) kF_X7_26 rfl dX7_returns_231 ?_
              refine g_iload X 2 dX7_returns_234 rfl ?_
              refine g_zald X 6 rfl (i16) rfl (by omega) (Nat.le_of_ble_eq_true rfl) (v := C 3 i16) rfl dX7_returns_236 ?_
              have J28 : ∀ (S27 : St), S27 = (if (C 3 i16) = 0 then S18 else (u2 (u2 (u2 (u2 S18 5 i16 (P10 i16)) 0 (plN C i16) (((u2 S18 5 i16 (P10 i16)) 0 (plN C i16)) + (P10 i16))) 1 (plN C i16) (((u2 (u2 S18 5 i16 (P10 i16)) 0 (plN C i16) (((u2 S18 5 i16 (P10 i16)) 0 (plN C i16)) + (P10 i16))) 1 (plN C i16)) + ((P10 i16) * hot))) 3 (plN C i16) (((u2 (u2 (u2 S18 5 i16 (P10 i16)) 0 (plN C i16) (((u2 S18 5 i16 (P10 i16)) 0 (plN C i16)) + (P10 i16))) 1 (plN C i16) (((u2 (u2 S18 5 i16 (P10 i16)) 0 (plN C i16) (((u2 S18 5 i16 (P10 i16)) 0 (plN C i16)) + (P10 i16))) 1 (plN C i16)) + ((P10 i16) * hot))) 3 (plN C i16)) + (P10 i16)))) → g_G p l e rm_X7_returns s m args below meth c D A 10 0 0 Q (wM h cI cJ cZ th C N S27 Qk K P10 Y) [(0, .ref (h 0)), (3, .long hot), (9, .int (nI i16))] 333 [] := by
                intro S27 eS27
                refine g_iinc X [(9, .int (nI (i16 + 1))), (0, .ref (h 0)), (3, .long hot)] (q := 2) (v := nI (i16 + 1)) dX7_returns_333 rfl ((congrArg (fun z => nI (i16) + z) (show Int32.ofInt 1 = nI 1 by decide +kernel)).trans ((nI_add _ _).trans (congrArg nI (by omega)))) (Nat.le_of_ble_eq_true rfl) rfl ?_
                refine g_goto X (tgt := 221) dX7_returns_336 (by decide) ?_
                refine g_lv _ [1, 2, 0] rfl ?_
                exact ihL15 (i16 + 1) _ (by omega) (by (try rw [eS27]); (try rw [eS18]); first | done | (rfl))
              refine g_if_eq X (tgt := 333) dX7_returns_237 (by decide) (fun h22 => ?_) (fun h22 => ?_)
              · --
                exact J28 _ (by rw [if_pos (c := (C 3 i16) = 0) h22])
              · --
                refine g_aload_n X 0 dX7_returns_240 rfl rfl ?_
                refine g_get X (C := RX7) (T := TX7) (N := 21) (v := .ref (h 1)) inlX7 0 rfl rfl 1 (Nat.le_of_ble_eq_true rfl) kF_X7_7 rfl dX7_returns_241 ?_
                refine g_bipush X (v := nI 58) dX7_returns_244 (by decide +kernel) ?_
                refine g_iload X 2 dX7_returns_246 rfl ?_
                refine g_iadd X (v := nI (i16 + 58)) dX7_returns_248 ((nI_add _ _).trans (congrArg nI (by omega))) ?_
                refine g_aload_n X 0 dX7_returns_249 rfl rfl ?_
                refine g_get X (C := RX7) (T := TX7) (N := 21) (v := .ref (h 8)) inlX7 0 rfl rfl 10 (Nat.le_of_ble_eq_true rfl) kF_X7_33 rfl dX7_returns_250 ?_
                refine g_iload X 2 dX7_returns_253 rfl ?_
                refine g_lald X 8 rfl (i16) rfl (by omega) (Nat.le_of_ble_eq_true rfl) (v := P10 i16) rfl dX7_returns_255 ?_
                obtain ⟨S23, eS23⟩ : ∃ z : St, z = u2 S18 5 i16 (P10 i16) := ⟨_, rfl⟩
                refine g_last X (ws' := wM h cI cJ cZ th C N S23 Qk K P10 Y) 1 rfl (58 + i16) (congrArg nI (show i16 + 58 = 58 + i16 by omega)) (by omega) (Nat.le_of_ble_eq_true rfl) dX7_returns_256 (by rw [eS23]; first | done | (rw [flu_5 _ _ (i := i16) _ (by omega)]; rfl)) ?_
                refine g_aload_n X 0 dX7_returns_257 rfl rfl ?_
                refine g_get X (C := RX7) (T := TX7) (N := 21) (v := .ref (h 1)) inlX7 0 rfl rfl 1 (Nat.le_of_ble_eq_true rfl) kF_X7_7 rfl dX7_returns_258 ?_
                refine g_iconst X (v := nI 0) dX7_returns_261 (by decide +kernel) ?_
                refine g_aload_n X 0 dX7_returns_262 rfl rfl ?_
                refine g_get X (C := RX7) (T := TX7) (N := 21) (v := .ref (h 5)) inlX7 0 rfl rfl 7 (Nat.le_of_ble_eq_true rfl) kF_X7_23 rfl dX7_returns_263 ?_
                refine g_iload X 2 dX7_returns_266 rfl ?_
                refine g_iald X 5 rfl (i16) rfl (by omega) (Nat.le_of_ble_eq_true rfl) (v := nI (plN C i16)) (hC.pl (by omega)).1 dX7_returns_268 ?_
                refine g_iadd X (v := nI (plN C i16)) dX7_returns_269 ((nI_add _ _).trans (congrArg nI (by omega))) ?_
                refine g_dup2_11 X dX7_returns_270 rfl rfl ?_
                refine g_lald X 1 rfl (0 + (plN C i16)) (congrArg nI (show plN C i16 = 0 + (plN C i16) by omega)) (by omega) (Nat.le_of_ble_eq_true rfl) (v := S23 0 (plN C i16)) (fl_0 _ _ (i := plN C i16) (by omega)) dX7_returns_271 ?_
                refine g_aload_n X 0 dX7_returns_272 rfl rfl ?_
                refine g_get X (C := RX7) (T := TX7) (N := 21) (v := .ref (h 8)) inlX7 0 rfl rfl 10 (Nat.le_of_ble_eq_true rfl) kF_X7_33 rfl dX7_returns_273 ?_
                refine g_iload X 2 dX7_returns_276 rfl ?_
                refine g_lald X 8 rfl (i16) rfl (by omega) (Nat.le_of_ble_eq_true rfl) (v := P10 i16) rfl dX7_returns_278 ?_
                refine g_ladd X (v := (S23 0 (plN C i16)) + (P10 i16)) dX7_returns_279 rfl ?_
                obtain ⟨S24, eS24⟩ : ∃ z : St, z = u2 S23 0 (plN C i16) ((S23 0 (plN C i16)) + (P10 i16)) := ⟨_, rfl⟩
                refine g_last X (ws' := wM h cI cJ cZ th C N S24 Qk K P10 Y) 1 rfl (0 + (plN C i16)) (congrArg nI (show plN C i16 = 0 + (plN C i16) by omega)) (by omega) (Nat.le_of_ble_eq_true rfl) dX7_returns_280 (by rw [eS24]; first | done | (rw [flu_0 _ _ (i := plN C i16) _ (by omega)]; rfl)) ?_
                refine g_aload_n X 0 dX7_returns_281 rfl rfl ?_
                refine g_get X (C := RX7) (T := TX7) (N := 21) (v := .ref (h 1)) inlX7 0 rfl rfl 1 (Nat.le_of_ble_eq_true rfl) kF_X7_7 rfl dX7_returns_282 ?_
                refine g_bipush X (v := nI 12) dX7_returns_285 (by decide +kernel) ?_
                refine g_aload_n X 0 dX7_returns_287 rfl rfl ?_
                refine g_get X (C := RX7) (T := TX7) (N := 21) (v := .ref (h 5)) inlX7 0 rfl rfl 7 (Nat.le_of_ble_eq_true rfl) kF_X7_23 rfl dX7_returns_288 ?_
                refine g_iload X 2 dX7_returns_291 rfl ?_
                refine g_iald X 5 rfl (i16) rfl (by omega) (Nat.le_of_ble_eq_true rfl) (v := nI (plN C i16)) (hC.pl (by omega)).1 dX7_returns_293 ?_
                refine g_iadd X (v := nI (plN C i16 + 12)) dX7_returns_294 ((nI_add _ _).trans (congrArg nI (by omega))) ?_
                refine g_dup2_11 X dX7_returns_295 rfl rfl ?_
                refine g_lald X 1 rfl (12 + (plN C i16)) (congrArg nI (show plN C i16 + 12 = 12 + (plN C i16) by omega)) (by omega) (Nat.le_of_ble_eq_true rfl) (v := S24 1 (plN C i16)) (fl_1 _ _ (i := plN C i16) (by omega)) dX7_returns_296 ?_
                refine g_aload_n X 0 dX7_returns_297 rfl rfl ?_
                refine g_get X (C := RX7) (T := TX7) (N := 21) (v := .ref (h 8)) inlX7 0 rfl rfl 10 (Nat.le_of_ble_eq_true rfl) kF_X7_33 rfl dX7_returns_298 ?_
                refine g_iload X 2 dX7_returns_301 rfl ?_
                refine g_lald X 8 rfl (i16) rfl (by omega) (Nat.le_of_ble_eq_true rfl) (v := P10 i16) rfl dX7_returns_303 ?_
                refine g_lload_n X 1 dX7_returns_304 rfl rfl ?_
                refine g_lmul X (v := (P10 i16) * hot) dX7_returns_305 rfl ?_
                refine g_ladd X (v := (S24 1 (plN C i16)) + ((P10 i16) * hot)) dX7_returns_306 rfl ?_
                obtain ⟨S25, eS25⟩ : ∃ z : St, z = u2 S24 1 (plN C i16) ((S24 1 (plN C i16)) + ((P10 i16) * hot)) := ⟨_, rfl⟩
                refine g_last X (ws' := wM h cI cJ cZ th C N S25 Qk K P10 Y) 1 rfl (12 + (plN C i16)) (congrArg nI (show plN C i16 + 12 = 12 + (plN C i16) by omega)) (by omega) (Nat.le_of_ble_eq_true rfl) dX7_returns_307 (by rw [eS25]; first | done | (rw [flu_1 _ _ (i := plN C i16) _ (by omega)]; rfl)) ?_
                refine g_aload_n X 0 dX7_returns_308 rfl rfl ?_
                refine g_get X (C := RX7) (T := TX7) (N := 21) (v := .ref (h 1)) inlX7 0 rfl rfl 1 (Nat.le_of_ble_eq_true rfl) kF_X7_7 rfl dX7_returns_309 ?_
                refine g_bipush X (v := nI 36) dX7_returns_312 (by decide +kernel) ?_
                refine g_aload_n X 0 dX7_returns_314 rfl rfl ?_
                refine g_get X (C := RX7) (T := TX7) (N := 21) (v := .ref (h 5)) inlX7 0 rfl rfl 7 (Nat.le_of_ble_eq_true rfl) kF_X7_23 rfl dX7_returns_315 ?_
                refine g_iload X 2 dX7_returns_318 rfl ?_
                refine g_iald X 5 rfl (i16) rfl (by omega) (Nat.le_of_ble_eq_true rfl) (v := nI (plN C i16)) (hC.pl (by omega)).1 dX7_returns_320 ?_
                refine g_iadd X (v := nI (plN C i16 + 36)) dX7_returns_321 ((nI_add _ _).trans (congrArg nI (by omega))) ?_
                refine g_dup2_11 X dX7_returns_322 rfl rfl ?_
                refine g_lald X 1 rfl (36 + (plN C i16)) (congrArg nI (show plN C i16 + 36 = 36 + (plN C i16) by omega)) (by omega) (Nat.le_of_ble_eq_true rfl) (v := S25 3 (plN C i16)) (fl_3 _ _ (i := plN C i16) (by omega)) dX7_returns_323 ?_
                refine g_aload_n X 0 dX7_returns_324 rfl rfl ?_
                refine g_get X (C := RX7) (T := TX7) (N := 21) (v := .ref (h 8)) inlX7 0 rfl rfl 10 (Nat.le_of_ble_eq_true rfl) kF_X7_33 rfl dX7_returns_325 ?_
                refine g_iload X 2 dX7_returns_328 rfl ?_
                refine g_lald X 8 rfl (i16) rfl (by omega) (Nat.le_of_ble_eq_true rfl) (v := P10 i16) rfl dX7_returns_330 ?_
                refine g_ladd X (v := (S25 3 (plN C i16)) + (P10 i16)) dX7_returns_331 rfl ?_
                obtain ⟨S26, eS26⟩ : ∃ z : St, z = u2 S25 3 (plN C i16) ((S25 3 (plN C i16)) + (P10 i16)) := ⟨_, rfl⟩
                refine g_last X (ws' := wM h cI cJ cZ th C N S26 Qk K P10 Y) 1 rfl (36 + (plN C i16)) (congrArg nI (show plN C i16 + 36 = 36 + (plN C i16) by omega)) (by omega) (Nat.le_of_ble_eq_true rfl) dX7_returns_332 (by rw [eS26]; first | done | (rw [flu_3 _ _ (i := plN C i16) _ (by omega)]; rfl)) ?_
                exact J28 _ (by (try rw [eS26]); (try rw [eS25]); (try rw [eS24]); (try rw [eS23]); rw [if_neg (c := (C 3 i16) = 0) h22])
          refine g_lv _ [1, 3, 0] rfl ?_
          exact L15 ((N 0)) 0 _ (by omega) (by first | rfl | ((try rw [eS14]); (try rw [ea11]); (try rw [eP10]); (try rw [ea4]); first | done | rfl))
        | succ n9 ihL7 =>
          intro i8 P10 a11 hi12 eP10 ea11
          have hlti8 : i8 < (N 0) := by omega
          have hpl := (hC.pl hlti8).2
          have hlig := lig_3 S (plN C i8)
          refine g_iload X 5 dX7_returns_69 rfl ?_
          refine g_aload_n X 0 dX7_returns_71 rfl rfl ?_
          refine g_get X (C := RX7) (T := TX7) (N := 21) (v := .int (nI (N 0))) inlX7 0 rfl rfl 6 (Nat.le_of_ble_eq_true rfl) kF_X7_72 rfl dX7_returns_72 ?_
          refine g_icN_ge X (a := i8) (b := N 0) (tgt := 205) (by omega) (by omega) dX7_returns_75 (by decide) (fun h29 => absurd h29 (by omega)) (fun h29 => ?_)
          refine g_aload_n X 0 dX7_returns_78 rfl rfl ?_
          refine g_get X (C := RX7) (T := TX7) (N := 21) (v := .ref (h 8)) inlX7 0 rfl rfl 10 (Nat.le_of_ble_eq_true rfl) kF_X7_33 rfl dX7_returns_79 ?_
          refine g_iload X 5 dX7_returns_82 rfl ?_
          refine g_aload_n X 0 dX7_returns_84 rfl rfl ?_
          refine g_get X (C := RX7) (T := TX7) (N := 21) (v := .ref (h 6)) inlX7 0 rfl rfl 8 (Nat.le_of_ble_eq_true rfl) kF_X7_26 rfl dX7_returns_85 ?_
          refine g_iload X 5 dX7_returns_88 rfl ?_
          refine g_zald X 6 rfl (i8) rfl (by omega) (Nat.le_of_ble_eq_true rfl) (v := C 3 i8) rfl dX7_returns_90 ?_
          have J34 : ∀ (v33 : Int64), v33 = (if (C 3 i8) = 0 then (0 : Int64) else if ¬ (S 6 i8) = (0 : Int64) then (0 : Int64) else if a4 ≤ (0 : Int64) then (0 : Int64) else (br * ((C 4 i8).toInt64)) / a4) → g_G p l e rm_X7_returns s m args below meth c D A 10 0 0 Q (wM h cI cJ cZ th C N S Qk K P10 Y) [(0, .ref (h 0)), (1, .long br), (3, .long hot), (5, .long a4), (7, .long a11), (9, .int (nI i8))] 133 [.long v33, .int (nI i8), .ref (h 8)] := by
            intro v33 ev33
            replace ev33 := ev33.trans (show _ = ptA C S br a4 i8 from rfl)
            obtain ⟨P35, eP35⟩ : ∃ z : Nat → Int64, z = vp_updL P10 i8 v33 := ⟨_, rfl⟩
            refine g_last X (ws' := wM h cI cJ cZ th C N S Qk K P35 Y) 8 rfl (i8) rfl (by omega) (Nat.le_of_ble_eq_true rfl) dX7_returns_133 (by rw [eP35]; first | done | (rfl)) ?_
            refine g_aload_n X 0 dX7_returns_134 rfl rfl ?_
            refine g_get X (C := RX7) (T := TX7) (N := 21) (v := .ref (h 8)) inlX7 0 rfl rfl 10 (Nat.le_of_ble_eq_true rfl) kF_X7_33 rfl dX7_returns_135 ?_
            refine g_iload X 5 dX7_returns_138 rfl ?_
            refine g_aload_n X 0 dX7_returns_140 rfl rfl ?_
            refine g_get X (C := RX7) (T := TX7) (N := 21) (v := .ref (h 6)) inlX7 0 rfl rfl 8 (Nat.le_of_ble_eq_true rfl) kF_X7_26 rfl dX7_returns_141 ?_
            refine g_iload X 5 dX7_returns_144 rfl ?_
            refine g_zald X 6 rfl (i8) rfl (by omega) (Nat.le_of_ble_eq_true rfl) (v := C 3 i8) rfl dX7_returns_146 ?_
            have J39 : ∀ (v38 : Int64), v38 = (if (C 3 i8) = 0 then v33 else if ¬ lig S (plN C i8) = 1 then v33 else v33 / (2 : Int64)) → g_G p l e rm_X7_returns s m args below meth c D A 10 0 0 Q (wM h cI cJ cZ th C N S Qk K P35 Y) [(0, .ref (h 0)), (1, .long br), (3, .long hot), (5, .long a4), (7, .long a11), (9, .int (nI i8))] 186 [.long v38, .int (nI i8), .ref (h 8)] := by
              intro v38 ev38
              replace ev38 := ev38.trans (show _ = ptB C S br a4 i8 from by rw [ev33]; rfl)
              obtain ⟨P40, eP40⟩ : ∃ z : Nat → Int64, z = vp_updL P35 i8 v38 := ⟨_, rfl⟩
              refine g_last X (ws' := wM h cI cJ cZ th C N S Qk K P40 Y) 8 rfl (i8) rfl (by omega) (Nat.le_of_ble_eq_true rfl) dX7_returns_186 (by rw [eP40]; first | done | (rfl)) ?_
              refine g_lload X 4 dX7_returns_187 rfl ?_
              refine g_aload_n X 0 dX7_returns_189 rfl rfl ?_
              refine g_get X (C := RX7) (T := TX7) (N := 21) (v := .ref (h 8)) inlX7 0 rfl rfl 10 (Nat.le_of_ble_eq_true rfl) kF_X7_33 rfl dX7_returns_190 ?_
              refine g_iload X 5 dX7_returns_193 rfl ?_
              refine g_lald X 8 rfl (i8) rfl (by omega) (Nat.le_of_ble_eq_true rfl) (v := v38) (by rw [eP40]; exact vpl_same _ _ _) dX7_returns_195 ?_
              refine g_lsub X (v := a11 - v38) dX7_returns_196 rfl ?_
              refine g_lstore X [(7, .long (a11 - v38)), (0, .ref (h 0)), (1, .long br), (3, .long hot), (5, .long a4), (9, .int (nI i8))] dX7_returns_197 (Nat.le_of_ble_eq_true rfl) rfl ?_
              refine g_iinc X [(9, .int (nI (i8 + 1))), (7, .long (a11 - v38)), (0, .ref (h 0)), (1, .long br), (3, .long hot), (5, .long a4)] (q := 5) (v := nI (i8 + 1)) dX7_returns_199 rfl ((congrArg (fun z => nI (i8) + z) (show Int32.ofInt 1 = nI 1 by decide +kernel)).trans ((nI_add _ _).trans (congrArg nI (by omega)))) (Nat.le_of_ble_eq_true rfl) rfl ?_
              refine g_goto X (tgt := 69) dX7_returns_202 (by decide) ?_
              refine g_lv _ [2, 3, 4, 5, 1, 0] rfl ?_
              exact ihL7 (i8 + 1) _ _ (by omega) (by (try rw [eP40]); (try rw [ev38]); (try rw [eP35]); (try rw [ev33]); (try rw [ea11]); (try rw [eP10]); first | done | (rfl)) (by (try rw [eP40]); (try rw [ev38]); (try rw [eP35]); (try rw [ev33]); (try rw [ea11]); (try rw [eP10]); first | done | (rfl))
            refine g_if_eq X (tgt := 179) dX7_returns_147 (by decide) (fun h36 => ?_) (fun h36 => ?_)
            · --
              refine g_aload_n X 0 dX7_returns_179 rfl rfl ?_
              refine g_get X (C := RX7) (T := TX7) (N := 21) (v := .ref (h 8)) inlX7 0 rfl rfl 10 (Nat.le_of_ble_eq_true rfl) kF_X7_33 rfl dX7_returns_180 ?_
              refine g_iload X 5 dX7_returns_183 rfl ?_
              refine g_lald X 8 rfl (i8) rfl (by omega) (Nat.le_of_ble_eq_true rfl) (v := v33) (by rw [eP35]; exact vpl_same _ _ _) dX7_returns_185 ?_
              exact J39 _ (by rw [if_pos (c := (C 3 i8) = 0) h36])
            · --
              refine g_aload_n X 0 dX7_returns_150 rfl rfl ?_
              refine g_aload_n X 0 dX7_returns_151 rfl rfl ?_
              refine g_get X (C := RX7) (T := TX7) (N := 21) (v := .ref (h 5)) inlX7 0 rfl rfl 7 (Nat.le_of_ble_eq_true rfl) kF_X7_23 rfl dX7_returns_152 ?_
              refine g_iload X 5 dX7_returns_155 rfl ?_
              refine g_iald X 5 rfl (i8) rfl (by omega) (Nat.le_of_ble_eq_true rfl) (v := nI (plN C i8)) (hC.pl (by omega)).1 dX7_returns_157 ?_
              refine g_callV X (As := [.int (nI (plN C i8))]) (rest := [.int (nI i8), .ref (h 8)]) (m_X7_light l D cI cJ cZ h th C N S Qk K P35 Y (plN C i8) hpl) kM_X7_118 kI_yX7_light kS_yX7_light kZ_RX7 kC_yX7_light hV_X7_light rfl rfl rfl 0 rfl (ci := 7) rfl ⟨Nat.le_of_ble_eq_true rfl, Nat.le_of_ble_eq_true rfl⟩ ⟨Nat.le_of_ble_eq_true rfl, Nat.le_of_ble_eq_true rfl⟩ (Nat.le_of_ble_eq_true rfl) dX7_returns_158 rfl [0, 1, 2, 3, 4, 5, 6, 7, 8, 9, 10, 11, 12, 13, 14, 15, 16] rfl rfl (g_kk1 (w2 := wM h cI cJ cZ th C N S Qk K P35 Y) ⟨[0, 1, 2, 3, 4, 5, 6, 7, 8, 9, 10, 11, 12, 13, 14, 15, 16], [], [0, 1, 2, 3, 4, 5, 6, 7, 8, 9, 10, 11, 12, 13, 14, 15, 16], [], rfl, rfl, rfl, rfl, by decide, rfl, rfl⟩ ?_)
              refine g_iconst X (v := nI 1) dX7_returns_161 (by decide +kernel) ?_
              refine g_icN_ne X (a := lig S (plN C i8)) (b := 1) (tgt := 179) (by omega) (by omega) dX7_returns_162 (by decide) (fun h37 => ?_) (fun h37 => ?_)
              · --
                refine g_aload_n X 0 dX7_returns_179 rfl rfl ?_
                refine g_get X (C := RX7) (T := TX7) (N := 21) (v := .ref (h 8)) inlX7 0 rfl rfl 10 (Nat.le_of_ble_eq_true rfl) kF_X7_33 rfl dX7_returns_180 ?_
                refine g_iload X 5 dX7_returns_183 rfl ?_
                refine g_lald X 8 rfl (i8) rfl (by omega) (Nat.le_of_ble_eq_true rfl) (v := v33) (by rw [eP35]; exact vpl_same _ _ _) dX7_returns_185 ?_
                exact J39 _ (by rw [if_neg (c := (C 3 i8) = 0) h36, if_pos (c := ¬ lig S (plN C i8) = 1) h37])
              · --
                refine g_aload_n X 0 dX7_returns_165 rfl rfl ?_
                refine g_get X (C := RX7) (T := TX7) (N := 21) (v := .ref (h 8)) inlX7 0 rfl rfl 10 (Nat.le_of_ble_eq_true rfl) kF_X7_33 rfl dX7_returns_166 ?_
                refine g_iload X 5 dX7_returns_169 rfl ?_
                refine g_lald X 8 rfl (i8) rfl (by omega) (Nat.le_of_ble_eq_true rfl) (v := v33) (by rw [eP35]; exact vpl_same _ _ _) dX7_returns_171 ?_
                refine g_ldc2 X kL_X7_147 dX7_returns_172 ?_
                refine g_ldiv X (v := v33 / (2 : Int64)) dX7_returns_175 (by decide +kernel) rfl ?_
                refine g_goto X (tgt := 186) dX7_returns_176 (by decide) ?_
                exact J39 _ (by rw [if_neg (c := (C 3 i8) = 0) h36, if_neg (c := ¬ lig S (plN C i8) = 1) (fun z => z h37)])
          refine g_if_eq X (tgt := 132) dX7_returns_91 (by decide) (fun h30 => ?_) (fun h30 => ?_)
          · --
            refine g_lconst X (v := 0) dX7_returns_132 (by decide +kernel) ?_
            exact J34 _ (by rw [if_pos (c := (C 3 i8) = 0) h30])
          · --
            refine g_aload_n X 0 dX7_returns_94 rfl rfl ?_
            refine g_get X (C := RX7) (T := TX7) (N := 21) (v := .ref (h 1)) inlX7 0 rfl rfl 1 (Nat.le_of_ble_eq_true rfl) kF_X7_7 rfl dX7_returns_95 ?_
            refine g_bipush X (v := nI 68) dX7_returns_98 (by decide +kernel) ?_
            refine g_iload X 5 dX7_returns_100 rfl ?_
            refine g_iadd X (v := nI (i8 + 68)) dX7_returns_102 ((nI_add _ _).trans (congrArg nI (by omega))) ?_
            refine g_lald X 1 rfl (68 + i8) (congrArg nI (show i8 + 68 = 68 + i8 by omega)) (by omega) (Nat.le_of_ble_eq_true rfl) (v := S 6 i8) (fl_6 _ _ (i := i8) (by omega)) dX7_returns_103 ?_
            refine g_lconst X (v := 0) dX7_returns_104 (by decide +kernel) ?_
            refine g_lj_ne X (tgt := 132) (pc1 := 106) dX7_returns_105 rfl dX7_returns_106 (by decide) (fun h31 => ?_) (fun h31 => ?_)
            · --
              refine g_lconst X (v := 0) dX7_returns_132 (by decide +kernel) ?_
              exact J34 _ (by rw [if_neg (c := (C 3 i8) = 0) h30, if_pos (c := ¬ (S 6 i8) = (0 : Int64)) h31])
            · --
              refine g_lload X 3 dX7_returns_109 rfl ?_
              refine g_lconst X (v := 0) dX7_returns_111 (by decide +kernel) ?_
              refine g_lj_le X (tgt := 132) (pc1 := 113) dX7_returns_112 rfl dX7_returns_113 (by decide) (fun h32 => ?_) (fun h32 => ?_)
              · --
                refine g_lconst X (v := 0) dX7_returns_132 (by decide +kernel) ?_
                exact J34 _ (by rw [if_neg (c := (C 3 i8) = 0) h30, if_neg (c := ¬ (S 6 i8) = (0 : Int64)) (fun z => z h31), if_pos (c := a4 ≤ (0 : Int64)) h32])
              · --
                refine g_lload_n X 1 dX7_returns_116 rfl rfl ?_
                refine g_aload_n X 0 dX7_returns_117 rfl rfl ?_
                refine g_get X (C := RX7) (T := TX7) (N := 21) (v := .ref (h 7)) inlX7 0 rfl rfl 9 (Nat.le_of_ble_eq_true rfl) kF_X7_30 rfl dX7_returns_118 ?_
                refine g_iload X 5 dX7_returns_121 rfl ?_
                refine g_iald X 7 rfl (i8) rfl (by omega) (Nat.le_of_ble_eq_true rfl) (v := C 4 i8) rfl dX7_returns_123 ?_
                refine g_i2l X (v := (C 4 i8).toInt64) dX7_returns_124 rfl ?_
                refine g_lmul X (v := br * ((C 4 i8).toInt64)) dX7_returns_125 rfl ?_
                refine g_lload X 3 dX7_returns_126 rfl ?_
                refine g_ldiv X (v := (br * ((C 4 i8).toInt64)) / a4) dX7_returns_128 (ne_le0 (by assumption)) rfl ?_
                refine g_goto X (tgt := 133) dX7_returns_129 (by decide) ?_
                exact J34 _ (by rw [if_neg (c := (C 3 i8) = 0) h30, if_neg (c := ¬ (S 6 i8) = (0 : Int64)) (fun z => z h31), if_neg (c := a4 ≤ (0 : Int64)) h32])
      refine g_lv _ [2, 3, 4, 5, 1, 0] rfl ?_
      exact L7 ((N 0)) 0 _ _ (by omega) (by first | rfl | ((try rw [ea4]); first | done | rfl)) (by first | rfl | ((try rw [ea4]); first | done | rfl))
    | succ n3 ihL1 =>
      intro i2 a4 hi5 ea4
      have hlti2 : i2 < (N 0) := by omega
      refine g_iload X 4 dX7_returns_6 rfl ?_
      refine g_aload_n X 0 dX7_returns_8 rfl rfl ?_
      refine g_get X (C := RX7) (T := TX7) (N := 21) (v := .int (nI (N 0))) inlX7 0 rfl rfl 6 (Nat.le_of_ble_eq_true rfl) kF_X7_72 rfl dX7_returns_9 ?_
      refine g_icN_ge X (a := i2) (b := N 0) (tgt := 63) (by omega) (by omega) dX7_returns_12 (by decide) (fun h41 => absurd h41 (by omega)) (fun h41 => ?_)
      refine g_lload X 3 dX7_returns_15 rfl ?_
      refine g_aload_n X 0 dX7_returns_17 rfl rfl ?_
      refine g_get X (C := RX7) (T := TX7) (N := 21) (v := .ref (h 6)) inlX7 0 rfl rfl 8 (Nat.le_of_ble_eq_true rfl) kF_X7_26 rfl dX7_returns_18 ?_
      refine g_iload X 4 dX7_returns_21 rfl ?_
      refine g_zald X 6 rfl (i2) rfl (by omega) (Nat.le_of_ble_eq_true rfl) (v := C 3 i2) rfl dX7_returns_23 ?_
      have J45 : ∀ (v44 : Int64), v44 = (if (C 3 i2) = 0 then (0 : Int64) else if ¬ (S 6 i2) = (0 : Int64) then (0 : Int64) else (C 4 i2).toInt64) → g_G p l e rm_X7_returns s m args below meth c D A 10 0 0 Q (wM h cI cJ cZ th C N S Qk K P Y) [(0, .ref (h 0)), (1, .long br), (3, .long hot), (7, .int (nI i2))] 54 [.long v44, .long a4] := by
        intro v44 ev44
        refine g_ladd X (v := a4 + v44) dX7_returns_54 rfl ?_
        refine g_lstore X [(5, .long (a4 + v44)), (0, .ref (h 0)), (1, .long br), (3, .long hot), (7, .int (nI i2))] dX7_returns_55 (Nat.le_of_ble_eq_true rfl) rfl ?_
        refine g_iinc X [(7, .int (nI (i2 + 1))), (5, .long (a4 + v44)), (0, .ref (h 0)), (1, .long br), (3, .long hot)] (q := 4) (v := nI (i2 + 1)) dX7_returns_57 rfl ((congrArg (fun z => nI (i2) + z) (show Int32.ofInt 1 = nI 1 by decide +kernel)).trans ((nI_add _ _).trans (congrArg nI (by omega)))) (Nat.le_of_ble_eq_true rfl) rfl ?_
        refine g_goto X (tgt := 6) dX7_returns_60 (by decide) ?_
        refine g_lv _ [2, 3, 4, 1, 0] rfl ?_
        exact ihL1 (i2 + 1) _ (by omega) (by (try rw [ev44]); (try rw [ea4]); first | done | (rfl))
      refine g_if_eq X (tgt := 53) dX7_returns_24 (by decide) (fun h42 => ?_) (fun h42 => ?_)
      · --
        refine g_lconst X (v := 0) dX7_returns_53 (by decide +kernel) ?_
        refine g_lv _ [0, 1, 2, 4] rfl ?_
        exact J45 _ (by rw [if_pos (c := (C 3 i2) = 0) h42])
      · --
        refine g_aload_n X 0 dX7_returns_27 rfl rfl ?_
        refine g_get X (C := RX7) (T := TX7) (N := 21) (v := .ref (h 1)) inlX7 0 rfl rfl 1 (Nat.le_of_ble_eq_true rfl) kF_X7_7 rfl dX7_returns_28 ?_
        refine g_bipush X (v := nI 68) dX7_returns_31 (by decide +kernel) ?_
        refine g_iload X 4 dX7_returns_33 rfl ?_
        refine g_iadd X (v := nI (i2 + 68)) dX7_returns_35 ((nI_add _ _).trans (congrArg nI (by omega))) ?_
        refine g_lald X 1 rfl (68 + i2) (congrArg nI (show i2 + 68 = 68 + i2 by omega)) (by omega) (Nat.le_of_ble_eq_true rfl) (v := S 6 i2) (fl_6 _ _ (i := i2) (by omega)) dX7_returns_36 ?_
        refine g_lconst X (v := 0) dX7_returns_37 (by decide +kernel) ?_
        refine g_lj_ne X (tgt := 53) (pc1 := 39) dX7_returns_38 rfl dX7_returns_39 (by decide) (fun h43 => ?_) (fun h43 => ?_)
        · --
          refine g_lconst X (v := 0) dX7_returns_53 (by decide +kernel) ?_
          refine g_lv _ [0, 1, 2, 4] rfl ?_
          exact J45 _ (by rw [if_neg (c := (C 3 i2) = 0) h42, if_pos (c := ¬ (S 6 i2) = (0 : Int64)) h43])
        · --
          refine g_aload_n X 0 dX7_returns_42 rfl rfl ?_
          refine g_get X (C := RX7) (T := TX7) (N := 21) (v := .ref (h 7)) inlX7 0 rfl rfl 9 (Nat.le_of_ble_eq_true rfl) kF_X7_30 rfl dX7_returns_43 ?_
          refine g_iload X 4 dX7_returns_46 rfl ?_
          refine g_iald X 7 rfl (i2) rfl (by omega) (Nat.le_of_ble_eq_true rfl) (v := C 4 i2) rfl dX7_returns_48 ?_
          refine g_i2l X (v := (C 4 i2).toInt64) dX7_returns_49 rfl ?_
          refine g_goto X (tgt := 54) dX7_returns_50 (by decide) ?_
          refine g_lv _ [0, 1, 2, 4] rfl ?_
          exact J45 _ (by rw [if_neg (c := (C 3 i2) = 0) h42, if_neg (c := ¬ (S 6 i2) = (0 : Int64)) (fun z => z h43)])
  refine g_lv _ [2, 3, 4, 1, 0] rfl ?_
  exact L1 ((N 0)) 0 _ (by omega) (by first | rfl | (first | done | rfl))
/-! cracks, as the reference has them -/
def lkF (S : St) (b o : Nat) : Nat := if S 0 b ≤ S 0 o then o else b
def lkT (S : St) (b o : Nat) : Nat := if ¬ lkF S b o = b then b else o
def lkW (S : St) (wd : Int32) (b o : Nat) : Int64 := (S 0 (lkF S b o) - S 0 (lkT S b o)) * wd.toInt64 / 1000
def lkR (S : St) (f : Nat) (x : Int64) : Int64 := if ¬ S 0 f = 0 then S 2 f * x / S 0 f else 0
def yAd (c i : Nat) (x : Int64) (Y : St) : St := u2 Y c i (Y c i + x)
def ySb (c i : Nat) (x : Int64) (Y : St) : St := u2 Y c i (Y c i - x)
def lkY (S : St) (wd : Int32) (b o : Nat) (Y : St) : St := yAd 2 (lkT S b o) (lkR S (lkF S b o) (lkW S wd b o)) (ySb 2 (lkF S b o) (lkR S (lkF S b o) (lkW S wd b o)) (yAd 1 (lkT S b o) (lkW S wd b o * deg S (lkF S b o)) (ySb 1 (lkF S b o) (lkW S wd b o * deg S (lkF S b o)) (yAd 0 (lkT S b o) (lkW S wd b o) (ySb 0 (lkF S b o) (lkW S wd b o) Y)))))
theorem lkF_lt {S : St} {b o : Nat} (hb : b < 12) (ho : o < 12) : lkF S b o < 12 := by unfold lkF; split <;> assumption
theorem lkT_lt {S : St} {b o : Nat} (hb : b < 12) (ho : o < 12) : lkT S b o < 12 := by unfold lkT; split <;> assumption

theorem hV_X7_leaks : yX7_leaks.cls = RX7 ∧ yX7_leaks.cls ≠ "java/lang/invoke/MethodHandle" ∧ yX7_leaks.cls ≠ "java/lang/invoke/VarHandle" ∧ (parseMethodDescriptor yX7_leaks.desc).map (fun d => d.parameters.length) = some 3 := by decide +kernel
abbrev rm_X7_leaks : Room := { frames := 1, cells := 0, slots := 0, locals := 21 }
set_option maxRecDepth 100000 in
set_option maxHeartbeats 4000000 in
theorem m_X7_leaks (l : Launch) (D : va_G) (cI cJ cZ : ClassId) (h : Nat → Nat) (th : Int32) (C : Cf) (N : Nat → Nat) (S : St) (Qk K P : Nat → Int64) (Y : St) (b o : Nat) (wd : Int32) (hb : b < 12) (ho : o < 12) (hW : Wok S) : g_Ct l D cI cJ cZ yX7_leaks cX7_leaks 10 none rm_X7_leaks 0 0 [.ref (h 0), .int (nI b), .int (nI o), .int wd] (wM h cI cJ cZ th C N S Qk K P Y) (g_eq none (wM h cI cJ cZ th C N S Qk K P (lkY S wd b o Y))) := by
  refine g_body RX7 [(0, .ref (h 0)), (1, .int (nI b)), (2, .int (nI o)), (3, .int wd)] kH_X7 rfl (Nat.le_of_ble_eq_true rfl) rfl ?_
  intro p e s m args below meth c A X hr hlk hmn Q hQ
  refine g_aload_n X 0 dX7_leaks_0 rfl rfl ?_
  refine g_get X (C := RX7) (T := TX7) (N := 21) (v := .ref (h 1)) inlX7 0 rfl rfl 1 (Nat.le_of_ble_eq_true rfl) kF_X7_7 rfl dX7_leaks_1 ?_
  refine g_iconst X (v := nI 0) dX7_leaks_4 (by decide +kernel) ?_
  refine g_iload_n X 1 dX7_leaks_5 rfl rfl ?_
  refine g_iadd X (v := nI b) dX7_leaks_6 ((nI_add _ _).trans (congrArg nI (by omega))) ?_
  refine g_lald X 1 rfl (0 + b) (congrArg nI (show b = 0 + b by omega)) (by omega) (Nat.le_of_ble_eq_true rfl) (v := S 0 b) (fl_0 _ _ (i := b) (by omega)) dX7_leaks_7 ?_
  refine g_aload_n X 0 dX7_leaks_8 rfl rfl ?_
  refine g_get X (C := RX7) (T := TX7) (N := 21) (v := .ref (h 1)) inlX7 0 rfl rfl 1 (Nat.le_of_ble_eq_true rfl) kF_X7_7 rfl dX7_leaks_9 ?_
  refine g_iconst X (v := nI 0) dX7_leaks_12 (by decide +kernel) ?_
  refine g_iload_n X 2 dX7_leaks_13 rfl rfl ?_
  refine g_iadd X (v := nI o) dX7_leaks_14 ((nI_add _ _).trans (congrArg nI (by omega))) ?_
  refine g_lald X 1 rfl (0 + o) (congrArg nI (show o = 0 + o by omega)) (by omega) (Nat.le_of_ble_eq_true rfl) (v := S 0 o) (fl_0 _ _ (i := o) (by omega)) dX7_leaks_15 ?_
  have J3 : ∀ (v2 : Nat), v2 = (if (S 0 b) ≤ (S 0 o) then o else b) → g_G p l e rm_X7_leaks s m args below meth c D A 10 0 0 Q (wM h cI cJ cZ th C N S Qk K P Y) [(0, .ref (h 0)), (1, .int (nI b)), (2, .int (nI o)), (3, .int wd)] 25 [.int (nI v2)] := by
    intro v2 ev2
    have bv2 : v2 < 2147483648 := by subst ev2; (repeat' split) <;> omega
    replace ev2 := ev2.trans (show _ = lkF S b o from rfl)
    have hF : v2 < 12 := by rw [ev2]; exact lkF_lt hb ho
    refine g_istore X [(4, .int (nI v2)), (0, .ref (h 0)), (1, .int (nI b)), (2, .int (nI o)), (3, .int wd)] dX7_leaks_25 (Nat.le_of_ble_eq_true rfl) rfl ?_
    refine g_iload X 0 dX7_leaks_27 rfl ?_
    refine g_iload_n X 2 dX7_leaks_29 rfl rfl ?_
    have J6 : ∀ (v5 : Nat), v5 = (if ¬ v2 = b then b else o) → g_G p l e rm_X7_leaks s m args below meth c D A 10 0 0 Q (wM h cI cJ cZ th C N S Qk K P Y) [(0, .ref (h 0)), (3, .int wd), (4, .int (nI v2))] 38 [.int (nI v5)] := by
      intro v5 ev5
      have bv5 : v5 < 2147483648 := by subst ev5; (repeat' split) <;> omega
      replace ev5 : v5 = lkT S b o := by rw [ev5, ev2]; rfl
      have hT : v5 < 12 := by rw [ev5]; exact lkT_lt hb ho
      refine g_istore X [(5, .int (nI v5)), (0, .ref (h 0)), (3, .int wd), (4, .int (nI v2))] dX7_leaks_38 (Nat.le_of_ble_eq_true rfl) rfl ?_
      refine g_aload_n X 1 dX7_leaks_40 rfl rfl ?_
      refine g_get X (C := RX7) (T := TX7) (N := 21) (v := .ref (h 1)) inlX7 0 rfl rfl 1 (Nat.le_of_ble_eq_true rfl) kF_X7_7 rfl dX7_leaks_41 ?_
      refine g_iconst X (v := nI 0) dX7_leaks_44 (by decide +kernel) ?_
      refine g_iload X 3 dX7_leaks_45 rfl ?_
      refine g_iadd X (v := nI v2) dX7_leaks_47 ((nI_add _ _).trans (congrArg nI (by omega))) ?_
      refine g_lald X 1 rfl (0 + v2) (congrArg nI (show v2 = 0 + v2 by omega)) (by omega) (Nat.le_of_ble_eq_true rfl) (v := S 0 v2) (fl_0 _ _ (i := v2) (by omega)) dX7_leaks_48 ?_
      refine g_aload_n X 1 dX7_leaks_49 rfl rfl ?_
      refine g_get X (C := RX7) (T := TX7) (N := 21) (v := .ref (h 1)) inlX7 0 rfl rfl 1 (Nat.le_of_ble_eq_true rfl) kF_X7_7 rfl dX7_leaks_50 ?_
      refine g_iconst X (v := nI 0) dX7_leaks_53 (by decide +kernel) ?_
      refine g_iload X 0 dX7_leaks_54 rfl ?_
      refine g_iadd X (v := nI v5) dX7_leaks_56 ((nI_add _ _).trans (congrArg nI (by omega))) ?_
      refine g_lald X 1 rfl (0 + v5) (congrArg nI (show v5 = 0 + v5 by omega)) (by omega) (Nat.le_of_ble_eq_true rfl) (v := S 0 v5) (fl_0 _ _ (i := v5) (by omega)) dX7_leaks_57 ?_
      refine g_lsub X (v := (S 0 v2) - (S 0 v5)) dX7_leaks_58 rfl ?_
      refine g_iload_n X 2 dX7_leaks_59 rfl rfl ?_
      refine g_i2l X (v := wd.toInt64) dX7_leaks_60 rfl ?_
      refine g_lmul X (v := ((S 0 v2) - (S 0 v5)) * wd.toInt64) dX7_leaks_61 rfl ?_
      refine g_ldc2 X kL_X7_87 dX7_leaks_62 ?_
      refine g_ldiv X (v := (((S 0 v2) - (S 0 v5)) * wd.toInt64) / (1000 : Int64)) dX7_leaks_65 (by decide +kernel) rfl ?_
      obtain ⟨x7, ex7⟩ : ∃ z : Int64, z = (((S 0 v2) - (S 0 v5)) * wd.toInt64) / (1000 : Int64) := ⟨_, rfl⟩
      refine g_st (st' := [.long x7]) (by rw [ex7]; first | done | rfl) ?_
      refine g_lstore X [(6, .long x7), (5, .int (nI v5)), (0, .ref (h 0)), (3, .int wd), (4, .int (nI v2))] dX7_leaks_66 (Nat.le_of_ble_eq_true rfl) rfl ?_
      refine g_aload_n X 2 dX7_leaks_68 rfl rfl ?_
      refine g_get X (C := RX7) (T := TX7) (N := 21) (v := .ref (h 1)) inlX7 0 rfl rfl 1 (Nat.le_of_ble_eq_true rfl) kF_X7_7 rfl dX7_leaks_69 ?_
      refine g_iconst X (v := nI 0) dX7_leaks_72 (by decide +kernel) ?_
      refine g_iload X 4 dX7_leaks_73 rfl ?_
      refine g_iadd X (v := nI v2) dX7_leaks_75 ((nI_add _ _).trans (congrArg nI (by omega))) ?_
      refine g_lald X 1 rfl (0 + v2) (congrArg nI (show v2 = 0 + v2 by omega)) (by omega) (Nat.le_of_ble_eq_true rfl) (v := S 0 v2) (fl_0 _ _ (i := v2) (by omega)) dX7_leaks_76 ?_
      refine g_lconst X (v := 0) dX7_leaks_77 (by decide +kernel) ?_
      have J10 : ∀ (v9 : Int64), v9 = (if ¬ (S 0 v2) = (0 : Int64) then ((S 2 v2) * x7) / (S 0 v2) else (0 : Int64)) → g_G p l e rm_X7_leaks s m args below meth c D A 10 0 0 Q (wM h cI cJ cZ th C N S Qk K P Y) [(0, .ref (h 0)), (4, .int (nI v2)), (5, .int (nI v5)), (6, .long x7)] 109 [.long v9] := by
        intro v9 ev9
        replace ev9 := ev9.trans (show _ = lkR S v2 x7 from rfl)
        refine g_lstore X [(8, .long v9), (0, .ref (h 0)), (4, .int (nI v2)), (5, .int (nI v5)), (6, .long x7)] dX7_leaks_109 (Nat.le_of_ble_eq_true rfl) rfl ?_
        refine g_aload_n X 1 dX7_leaks_111 rfl rfl ?_
        refine g_get X (C := RX7) (T := TX7) (N := 21) (v := .ref (h 14)) inlX7 0 rfl rfl 18 (Nat.le_of_ble_eq_true rfl) kF_X7_51 rfl dX7_leaks_112 ?_
        refine g_iload X 2 dX7_leaks_115 rfl ?_
        refine g_dup2_11 X dX7_leaks_117 rfl rfl ?_
        refine g_lald X 14 rfl (v2) rfl (by omega) (Nat.le_of_ble_eq_true rfl) (v := Y 0 v2) rfl dX7_leaks_118 ?_
        refine g_lload X 4 dX7_leaks_119 rfl ?_
        refine g_lsub X (v := (Y 0 v2) - x7) dX7_leaks_121 rfl ?_
        obtain ⟨Y11, eY11⟩ : ∃ z : St, z = u2 Y 0 v2 ((Y 0 v2) - x7) := ⟨_, rfl⟩
        refine g_last X (ws' := wM h cI cJ cZ th C N S Qk K P Y11) 14 rfl (v2) rfl (by omega) (Nat.le_of_ble_eq_true rfl) dX7_leaks_122 (by rw [eY11]; first | done | (rfl)) ?_
        refine g_aload_n X 1 dX7_leaks_123 rfl rfl ?_
        refine g_get X (C := RX7) (T := TX7) (N := 21) (v := .ref (h 14)) inlX7 0 rfl rfl 18 (Nat.le_of_ble_eq_true rfl) kF_X7_51 rfl dX7_leaks_124 ?_
        refine g_iload X 3 dX7_leaks_127 rfl ?_
        refine g_dup2_11 X dX7_leaks_129 rfl rfl ?_
        refine g_lald X 14 rfl (v5) rfl (by omega) (Nat.le_of_ble_eq_true rfl) (v := Y11 0 v5) rfl dX7_leaks_130 ?_
        refine g_lload X 4 dX7_leaks_131 rfl ?_
        refine g_ladd X (v := (Y11 0 v5) + x7) dX7_leaks_133 rfl ?_
        obtain ⟨Y12, eY12⟩ : ∃ z : St, z = u2 Y11 0 v5 ((Y11 0 v5) + x7) := ⟨_, rfl⟩
        refine g_last X (ws' := wM h cI cJ cZ th C N S Qk K P Y12) 14 rfl (v5) rfl (by omega) (Nat.le_of_ble_eq_true rfl) dX7_leaks_134 (by rw [eY12]; first | done | (rfl)) ?_
        replace eY12 : Y12 = yAd 0 v5 x7 (ySb 0 v2 x7 Y) := by rw [eY12]; (try rw [eY11]); first | done | rfl
        refine g_aload_n X 1 dX7_leaks_135 rfl rfl ?_
        refine g_get X (C := RX7) (T := TX7) (N := 21) (v := .ref (h 15)) inlX7 0 rfl rfl 19 (Nat.le_of_ble_eq_true rfl) kF_X7_54 rfl dX7_leaks_136 ?_
        refine g_iload X 2 dX7_leaks_139 rfl ?_
        refine g_dup2_11 X dX7_leaks_141 rfl rfl ?_
        refine g_lald X 15 rfl (v2) rfl (by omega) (Nat.le_of_ble_eq_true rfl) (v := Y12 1 v2) rfl dX7_leaks_142 ?_
        refine g_lload X 4 dX7_leaks_143 rfl ?_
        refine g_aload_n X 1 dX7_leaks_145 rfl rfl ?_
        refine g_iload X 2 dX7_leaks_146 rfl ?_
        refine g_callV X (As := [.int (nI v2)]) (rest := [.long x7, .long (Y12 1 v2), .int (nI v2), .ref (h 15)]) (m_X7_degrees l D cI cJ cZ h th C N S Qk K P Y12 v2 hF (hW.ne hF)) kM_X7_111 kI_yX7_degrees kS_yX7_degrees kZ_RX7 kC_yX7_degrees hV_X7_degrees rfl rfl rfl 0 rfl (ci := 7) rfl ⟨Nat.le_of_ble_eq_true rfl, Nat.le_of_ble_eq_true rfl⟩ ⟨Nat.le_of_ble_eq_true rfl, Nat.le_of_ble_eq_true rfl⟩ (Nat.le_of_ble_eq_true rfl) dX7_leaks_148 rfl [0, 1, 2, 3, 4, 5, 6, 7, 8, 9, 10, 11, 12, 13, 14, 15, 16] rfl rfl (g_kk1 (w2 := wM h cI cJ cZ th C N S Qk K P Y12) ⟨[0, 1, 2, 3, 4, 5, 6, 7, 8, 9, 10, 11, 12, 13, 14, 15, 16], [], [0, 1, 2, 3, 4, 5, 6, 7, 8, 9, 10, 11, 12, 13, 14, 15, 16], [], rfl, rfl, rfl, rfl, by decide, rfl, rfl⟩ ?_)
        refine g_lmul X (v := x7 * (deg S v2)) dX7_leaks_151 rfl ?_
        refine g_lsub X (v := (Y12 1 v2) - (x7 * (deg S v2))) dX7_leaks_152 rfl ?_
        obtain ⟨Y13, eY13⟩ : ∃ z : St, z = u2 Y12 1 v2 ((Y12 1 v2) - (x7 * (deg S v2))) := ⟨_, rfl⟩
        refine g_last X (ws' := wM h cI cJ cZ th C N S Qk K P Y13) 15 rfl (v2) rfl (by omega) (Nat.le_of_ble_eq_true rfl) dX7_leaks_153 (by rw [eY13]; first | done | (rfl)) ?_
        refine g_aload_n X 1 dX7_leaks_154 rfl rfl ?_
        refine g_get X (C := RX7) (T := TX7) (N := 21) (v := .ref (h 15)) inlX7 0 rfl rfl 19 (Nat.le_of_ble_eq_true rfl) kF_X7_54 rfl dX7_leaks_155 ?_
        refine g_iload X 3 dX7_leaks_158 rfl ?_
        refine g_dup2_11 X dX7_leaks_160 rfl rfl ?_
        refine g_lald X 15 rfl (v5) rfl (by omega) (Nat.le_of_ble_eq_true rfl) (v := Y13 1 v5) rfl dX7_leaks_161 ?_
        refine g_lload X 4 dX7_leaks_162 rfl ?_
        refine g_aload_n X 1 dX7_leaks_164 rfl rfl ?_
        refine g_iload X 2 dX7_leaks_165 rfl ?_
        refine g_callV X (As := [.int (nI v2)]) (rest := [.long x7, .long (Y13 1 v5), .int (nI v5), .ref (h 15)]) (m_X7_degrees l D cI cJ cZ h th C N S Qk K P Y13 v2 hF (hW.ne hF)) kM_X7_111 kI_yX7_degrees kS_yX7_degrees kZ_RX7 kC_yX7_degrees hV_X7_degrees rfl rfl rfl 0 rfl (ci := 7) rfl ⟨Nat.le_of_ble_eq_true rfl, Nat.le_of_ble_eq_true rfl⟩ ⟨Nat.le_of_ble_eq_true rfl, Nat.le_of_ble_eq_true rfl⟩ (Nat.le_of_ble_eq_true rfl) dX7_leaks_167 rfl [0, 1, 2, 3, 4, 5, 6, 7, 8, 9, 10, 11, 12, 13, 14, 15, 16] rfl rfl (g_kk1 (w2 := wM h cI cJ cZ th C N S Qk K P Y13) ⟨[0, 1, 2, 3, 4, 5, 6, 7, 8, 9, 10, 11, 12, 13, 14, 15, 16], [], [0, 1, 2, 3, 4, 5, 6, 7, 8, 9, 10, 11, 12, 13, 14, 15, 16], [], rfl, rfl, rfl, rfl, by decide, rfl, rfl⟩ ?_)
        refine g_lmul X (v := x7 * (deg S v2)) dX7_leaks_170 rfl ?_
        refine g_ladd X (v := (Y13 1 v5) + (x7 * (deg S v2))) dX7_leaks_171 rfl ?_
        obtain ⟨Y14, eY14⟩ : ∃ z : St, z = u2 Y13 1 v5 ((Y13 1 v5) + (x7 * (deg S v2))) := ⟨_, rfl⟩
        refine g_last X (ws' := wM h cI cJ cZ th C N S Qk K P Y14) 15 rfl (v5) rfl (by omega) (Nat.le_of_ble_eq_true rfl) dX7_leaks_172 (by rw [eY14]; first | done | (rfl)) ?_
        replace eY14 : Y14 = yAd 1 v5 (x7 * deg S v2) (ySb 1 v2 (x7 * deg S v2) Y12) := by rw [eY14]; (try rw [eY13]); first | done | rfl
        refine g_aload_n X 1 dX7_leaks_173 rfl rfl ?_
        refine g_get X (C := RX7) (T := TX7) (N := 21) (v := .ref (h 16)) inlX7 0 rfl rfl 20 (Nat.le_of_ble_eq_true rfl) kF_X7_57 rfl dX7_leaks_174 ?_
        refine g_iload X 2 dX7_leaks_177 rfl ?_
        refine g_dup2_11 X dX7_leaks_179 rfl rfl ?_
        refine g_lald X 16 rfl (v2) rfl (by omega) (Nat.le_of_ble_eq_true rfl) (v := Y14 2 v2) rfl dX7_leaks_180 ?_
        refine g_lload X 0 dX7_leaks_181 rfl ?_
        refine g_lsub X (v := (Y14 2 v2) - v9) dX7_leaks_183 rfl ?_
        obtain ⟨Y15, eY15⟩ : ∃ z : St, z = u2 Y14 2 v2 ((Y14 2 v2) - v9) := ⟨_, rfl⟩
        refine g_last X (ws' := wM h cI cJ cZ th C N S Qk K P Y15) 16 rfl (v2) rfl (by omega) (Nat.le_of_ble_eq_true rfl) dX7_leaks_184 (by rw [eY15]; first | done | (rfl)) ?_
        refine g_aload_n X 1 dX7_leaks_185 rfl rfl ?_
        refine g_get X (C := RX7) (T := TX7) (N := 21) (v := .ref (h 16)) inlX7 0 rfl rfl 20 (Nat.le_of_ble_eq_true rfl) kF_X7_57 rfl dX7_leaks_186 ?_
        refine g_iload X 3 dX7_leaks_189 rfl ?_
        refine g_dup2_11 X dX7_leaks_191 rfl rfl ?_
        refine g_lald X 16 rfl (v5) rfl (by omega) (Nat.le_of_ble_eq_true rfl) (v := Y15 2 v5) rfl dX7_leaks_192 ?_
        refine g_lload X 0 dX7_leaks_193 rfl ?_
        refine g_ladd X (v := (Y15 2 v5) + v9) dX7_leaks_195 rfl ?_
        obtain ⟨Y16, eY16⟩ : ∃ z : St, z = u2 Y15 2 v5 ((Y15 2 v5) + v9) := ⟨_, rfl⟩
        refine g_last X (ws' := wM h cI cJ cZ th C N S Qk K P Y16) 16 rfl (v5) rfl (by omega) (Nat.le_of_ble_eq_true rfl) dX7_leaks_196 (by rw [eY16]; first | done | (rfl)) ?_
        refine g_vret X hr hlk hQ dX7_leaks_197 ?_
        show g_eq _ _ _ _
        try rw [eY16]
        try rw [eY15]
        try rw [eY14]
        try rw [eY12]
        try rw [ev9]
        try rw [ex7]
        try rw [ev5]
        try rw [ev2]
        exact ⟨rfl, rfl⟩
      refine g_lj_ne X (tgt := 86) (pc1 := 79) dX7_leaks_78 rfl dX7_leaks_79 (by decide) (fun h8 => ?_) (fun h8 => ?_)
      · --
        refine g_aload_n X 2 dX7_leaks_86 rfl rfl ?_
        refine g_get X (C := RX7) (T := TX7) (N := 21) (v := .ref (h 1)) inlX7 0 rfl rfl 1 (Nat.le_of_ble_eq_true rfl) kF_X7_7 rfl dX7_leaks_87 ?_
        refine g_bipush X (v := nI 24) dX7_leaks_90 (by decide +kernel) ?_
        refine g_iload X 4 dX7_leaks_92 rfl ?_
        refine g_iadd X (v := nI (v2 + 24)) dX7_leaks_94 ((nI_add _ _).trans (congrArg nI (by omega))) ?_
        refine g_lald X 1 rfl (24 + v2) (congrArg nI (show v2 + 24 = 24 + v2 by omega)) (by omega) (Nat.le_of_ble_eq_true rfl) (v := S 2 v2) (fl_2 _ _ (i := v2) (by omega)) dX7_leaks_95 ?_
        refine g_lload X 0 dX7_leaks_96 rfl ?_
        refine g_lmul X (v := (S 2 v2) * x7) dX7_leaks_98 rfl ?_
        refine g_aload_n X 2 dX7_leaks_99 rfl rfl ?_
        refine g_get X (C := RX7) (T := TX7) (N := 21) (v := .ref (h 1)) inlX7 0 rfl rfl 1 (Nat.le_of_ble_eq_true rfl) kF_X7_7 rfl dX7_leaks_100 ?_
        refine g_iconst X (v := nI 0) dX7_leaks_103 (by decide +kernel) ?_
        refine g_iload X 4 dX7_leaks_104 rfl ?_
        refine g_iadd X (v := nI v2) dX7_leaks_106 ((nI_add _ _).trans (congrArg nI (by omega))) ?_
        refine g_lald X 1 rfl (0 + v2) (congrArg nI (show v2 = 0 + v2 by omega)) (by omega) (Nat.le_of_ble_eq_true rfl) (v := S 0 v2) (fl_0 _ _ (i := v2) (by omega)) dX7_leaks_107 ?_
        refine g_ldiv X (v := ((S 2 v2) * x7) / (S 0 v2)) dX7_leaks_108 (by assumption) rfl ?_
        refine g_lv _ [2, 4, 1, 0] rfl ?_
        exact J10 _ (by rw [if_pos (c := ¬ (S 0 v2) = (0 : Int64)) h8])
      · --
        refine g_lconst X (v := 0) dX7_leaks_82 (by decide +kernel) ?_
        refine g_goto X (tgt := 109) dX7_leaks_83 (by decide) ?_
        refine g_lv _ [2, 4, 1, 0] rfl ?_
        exact J10 _ (by rw [if_neg (c := ¬ (S 0 v2) = (0 : Int64)) (fun z => z h8)])
    refine g_icN_ne X (a := v2) (b := b) (tgt := 37) (by omega) (by omega) dX7_leaks_30 (by decide) (fun h4 => ?_) (fun h4 => ?_)
    · --
      refine g_iload_n X 2 dX7_leaks_37 rfl rfl ?_
      refine g_lv _ [1, 4, 0] rfl ?_
      exact J6 _ (by rw [if_pos (c := ¬ v2 = b) h4])
    · --
      refine g_iload_n X 3 dX7_leaks_33 rfl rfl ?_
      refine g_goto X (tgt := 38) dX7_leaks_34 (by decide) ?_
      refine g_lv _ [1, 4, 0] rfl ?_
      exact J6 _ (by rw [if_neg (c := ¬ v2 = b) (fun z => z h4)])
  refine g_lj_le X (tgt := 24) (pc1 := 17) dX7_leaks_16 rfl dX7_leaks_17 (by decide) (fun h1 => ?_) (fun h1 => ?_)
  · --
    refine g_iload_n X 2 dX7_leaks_24 rfl rfl ?_
    exact J3 _ (by rw [if_pos (c := (S 0 b) ≤ (S 0 o)) h1])
  · --
    refine g_iload_n X 1 dX7_leaks_20 rfl rfl ?_
    refine g_goto X (tgt := 25) dX7_leaks_21 (by decide) ?_
    exact J3 _ (by rw [if_neg (c := (S 0 b) ≤ (S 0 o)) h1])
def zrM (i : Nat) (Y : St) : St := u2 (u2 (u2 Y 0 i 0) 1 i 0) 2 i 0
def ckR (C : Cf) (S : St) (b : Nat) (Y : St) : St := if 3 ≤ b % 4 then Y else lkY S (C 0 b) b (b + 1) Y
def ckM (C : Cf) (S : St) (b : Nat) (Y : St) : St := if 8 ≤ b then ckR C S b Y else lkY S (C 1 b) b (b + 4) (ckR C S b Y)
def adM (Y : St) (i : Nat) (S : St) : St := yAd 2 i (Y 2 i) (yAd 1 i (Y 1 i) (yAd 0 i (Y 0 i) S))
def ckY (C : Cf) (S Y : St) : St := itr (ckM C S) (itr zrM Y 12) 12
def crM (C : Cf) (S Y : St) : St := itr (adM (ckY C S Y)) S 12

theorem hV_X7_cracks : yX7_cracks.cls = RX7 ∧ yX7_cracks.cls ≠ "java/lang/invoke/MethodHandle" ∧ yX7_cracks.cls ≠ "java/lang/invoke/VarHandle" ∧ (parseMethodDescriptor yX7_cracks.desc).map (fun d => d.parameters.length) = some 0 := by decide +kernel
abbrev rm_X7_cracks : Room := { frames := 2, cells := 0, slots := 0, locals := 50 }
set_option maxRecDepth 100000 in
set_option maxHeartbeats 4000000 in
theorem m_X7_cracks (l : Launch) (D : va_G) (cI cJ cZ : ClassId) (h : Nat → Nat) (th : Int32) (C : Cf) (N : Nat → Nat) (S : St) (Qk K P : Nat → Int64) (Y : St) (hW : Wok S) : g_Ct l D cI cJ cZ yX7_cracks cX7_cracks 2 none rm_X7_cracks 0 0 [.ref (h 0)] (wM h cI cJ cZ th C N S Qk K P Y) (g_eq none (wM h cI cJ cZ th C N (crM C S Y) Qk K P (ckY C S Y))) := by
  refine g_body RX7 [(0, .ref (h 0))] kH_X7 rfl (Nat.le_of_ble_eq_true rfl) rfl ?_
  intro p e s m args below meth c A X hr hlk hmn Q hQ
  refine g_iconst X (v := nI 0) dX7_cracks_0 (by decide +kernel) ?_
  refine g_istore_n X [(1, .int (nI 0)), (0, .ref (h 0))] dX7_cracks_1 rfl (Nat.le_of_ble_eq_true rfl) rfl ?_
  have L1 : ∀ (n3 i2 : Nat) (Y4 : St), i2 + n3 = 12 → Y4 = itr zrM Y i2 → g_G p l e rm_X7_cracks s m args below meth c D A 2 0 0 Q (wM h cI cJ cZ th C N S Qk K P Y4) [(0, .ref (h 0)), (1, .int (nI i2))] 2 [] := by
    intro n3
    induction n3 with
    | zero =>
      intro i2 Y4 hi5 eY4
      obtain rfl : i2 = 12 := by omega
      refine g_iload_n X 1 dX7_cracks_2 rfl rfl ?_
      refine g_bipush X (v := nI 12) dX7_cracks_3 (by decide +kernel) ?_
      refine g_icN_ge X (a := 12) (b := 12) (tgt := 35) (by omega) (by omega) dX7_cracks_5 (by decide) (fun h6 => ?_) (fun h6 => absurd h6 (by omega))
      refine g_iconst X (v := nI 0) dX7_cracks_35 (by decide +kernel) ?_
      refine g_istore_n X [(1, .int (nI 0)), (0, .ref (h 0))] dX7_cracks_36 rfl (Nat.le_of_ble_eq_true rfl) rfl ?_
      have L7 : ∀ (n9 i8 : Nat) (Y10 : St), i8 + n9 = 12 → Y10 = itr (ckM C S) Y4 i8 → g_G p l e rm_X7_cracks s m args below meth c D A 2 0 0 Q (wM h cI cJ cZ th C N S Qk K P Y10) [(0, .ref (h 0)), (1, .int (nI i8))] 37 [] := by
        intro n9
        induction n9 with
        | zero =>
          intro i8 Y10 hi11 eY10
          obtain rfl : i8 = 12 := by omega
          refine g_iload_n X 1 dX7_cracks_37 rfl rfl ?_
          refine g_bipush X (v := nI 12) dX7_cracks_38 (by decide +kernel) ?_
          refine g_icN_ge X (a := 12) (b := 12) (tgt := 90) (by omega) (by omega) dX7_cracks_40 (by decide) (fun h12 => ?_) (fun h12 => absurd h12 (by omega))
          refine g_iconst X (v := nI 0) dX7_cracks_90 (by decide +kernel) ?_
          refine g_istore_n X [(1, .int (nI 0)), (0, .ref (h 0))] dX7_cracks_91 rfl (Nat.le_of_ble_eq_true rfl) rfl ?_
          have L13 : ∀ (n15 i14 : Nat) (S16 : St), i14 + n15 = 12 → S16 = itr (adM Y10) S i14 → g_G p l e rm_X7_cracks s m args below meth c D A 2 0 0 Q (wM h cI cJ cZ th C N S16 Qk K P Y10) [(0, .ref (h 0)), (1, .int (nI i14))] 92 [] := by
            intro n15
            induction n15 with
            | zero =>
              intro i14 S16 hi17 eS16
              obtain rfl : i14 = 12 := by omega
              refine g_iload_n X 1 dX7_cracks_92 rfl rfl ?_
              refine g_bipush X (v := nI 12) dX7_cracks_93 (by decide +kernel) ?_
              refine g_icN_ge X (a := 12) (b := 12) (tgt := 157) (by omega) (by omega) dX7_cracks_95 (by decide) (fun h18 => ?_) (fun h18 => absurd h18 (by omega))
              refine g_vret X hr hlk hQ dX7_cracks_157 ?_
              show g_eq _ _ _ _
              try rw [eS16]
              try rw [eY10]
              try rw [eY4]
              exact ⟨rfl, rfl⟩
            | succ n15 ihL13 =>
              intro i14 S16 hi17 eS16
              have hlti14 : i14 < 12 := by omega
              refine g_iload_n X 1 dX7_cracks_92 rfl rfl ?_
              refine g_bipush X (v := nI 12) dX7_cracks_93 (by decide +kernel) ?_
              refine g_icN_ge X (a := i14) (b := 12) (tgt := 157) (by omega) (by omega) dX7_cracks_95 (by decide) (fun h19 => absurd h19 (by omega)) (fun h19 => ?_)
              refine g_aload_n X 0 dX7_cracks_98 rfl rfl ?_
              refine g_get X (C := RX7) (T := TX7) (N := 21) (v := .ref (h 1)) inlX7 0 rfl rfl 1 (Nat.le_of_ble_eq_true rfl) kF_X7_7 rfl dX7_cracks_99 ?_
              refine g_iconst X (v := nI 0) dX7_cracks_102 (by decide +kernel) ?_
              refine g_iload_n X 1 dX7_cracks_103 rfl rfl ?_
              refine g_iadd X (v := nI i14) dX7_cracks_104 ((nI_add _ _).trans (congrArg nI (by omega))) ?_
              refine g_dup2_11 X dX7_cracks_105 rfl rfl ?_
              refine g_lald X 1 rfl (0 + i14) (congrArg nI (show i14 = 0 + i14 by omega)) (by omega) (Nat.le_of_ble_eq_true rfl) (v := S16 0 i14) (fl_0 _ _ (i := i14) (by omega)) dX7_cracks_106 ?_
              refine g_aload_n X 0 dX7_cracks_107 rfl rfl ?_
              refine g_get X (C := RX7) (T := TX7) (N := 21) (v := .ref (h 14)) inlX7 0 rfl rfl 18 (Nat.le_of_ble_eq_true rfl) kF_X7_51 rfl dX7_cracks_108 ?_
              refine g_iload_n X 1 dX7_cracks_111 rfl rfl ?_
              refine g_lald X 14 rfl (i14) rfl (by omega) (Nat.le_of_ble_eq_true rfl) (v := Y10 0 i14) rfl dX7_cracks_112 ?_
              refine g_ladd X (v := (S16 0 i14) + (Y10 0 i14)) dX7_cracks_113 rfl ?_
              obtain ⟨S20, eS20⟩ : ∃ z : St, z = u2 S16 0 i14 ((S16 0 i14) + (Y10 0 i14)) := ⟨_, rfl⟩
              refine g_last X (ws' := wM h cI cJ cZ th C N S20 Qk K P Y10) 1 rfl (0 + i14) (congrArg nI (show i14 = 0 + i14 by omega)) (by omega) (Nat.le_of_ble_eq_true rfl) dX7_cracks_114 (by rw [eS20]; first | done | (rw [flu_0 _ _ (i := i14) _ (by omega)]; rfl)) ?_
              refine g_aload_n X 0 dX7_cracks_115 rfl rfl ?_
              refine g_get X (C := RX7) (T := TX7) (N := 21) (v := .ref (h 1)) inlX7 0 rfl rfl 1 (Nat.le_of_ble_eq_true rfl) kF_X7_7 rfl dX7_cracks_116 ?_
              refine g_bipush X (v := nI 12) dX7_cracks_119 (by decide +kernel) ?_
              refine g_iload_n X 1 dX7_cracks_121 rfl rfl ?_
              refine g_iadd X (v := nI (i14 + 12)) dX7_cracks_122 ((nI_add _ _).trans (congrArg nI (by omega))) ?_
              refine g_dup2_11 X dX7_cracks_123 rfl rfl ?_
              refine g_lald X 1 rfl (12 + i14) (congrArg nI (show i14 + 12 = 12 + i14 by omega)) (by omega) (Nat.le_of_ble_eq_true rfl) (v := S20 1 i14) (fl_1 _ _ (i := i14) (by omega)) dX7_cracks_124 ?_
              refine g_aload_n X 0 dX7_cracks_125 rfl rfl ?_
              refine g_get X (C := RX7) (T := TX7) (N := 21) (v := .ref (h 15)) inlX7 0 rfl rfl 19 (Nat.le_of_ble_eq_true rfl) kF_X7_54 rfl dX7_cracks_126 ?_
              refine g_iload_n X 1 dX7_cracks_129 rfl rfl ?_
              refine g_lald X 15 rfl (i14) rfl (by omega) (Nat.le_of_ble_eq_true rfl) (v := Y10 1 i14) rfl dX7_cracks_130 ?_
              refine g_ladd X (v := (S20 1 i14) + (Y10 1 i14)) dX7_cracks_131 rfl ?_
              obtain ⟨S21, eS21⟩ : ∃ z : St, z = u2 S20 1 i14 ((S20 1 i14) + (Y10 1 i14)) := ⟨_, rfl⟩
              refine g_last X (ws' := wM h cI cJ cZ th C N S21 Qk K P Y10) 1 rfl (12 + i14) (congrArg nI (show i14 + 12 = 12 + i14 by omega)) (by omega) (Nat.le_of_ble_eq_true rfl) dX7_cracks_132 (by rw [eS21]; first | done | (rw [flu_1 _ _ (i := i14) _ (by omega)]; rfl)) ?_
              refine g_aload_n X 0 dX7_cracks_133 rfl rfl ?_
              refine g_get X (C := RX7) (T := TX7) (N := 21) (v := .ref (h 1)) inlX7 0 rfl rfl 1 (Nat.le_of_ble_eq_true rfl) kF_X7_7 rfl dX7_cracks_134 ?_
              refine g_bipush X (v := nI 24) dX7_cracks_137 (by decide +kernel) ?_
              refine g_iload_n X 1 dX7_cracks_139 rfl rfl ?_
              refine g_iadd X (v := nI (i14 + 24)) dX7_cracks_140 ((nI_add _ _).trans (congrArg nI (by omega))) ?_
              refine g_dup2_11 X dX7_cracks_141 rfl rfl ?_
              refine g_lald X 1 rfl (24 + i14) (congrArg nI (show i14 + 24 = 24 + i14 by omega)) (by omega) (Nat.le_of_ble_eq_true rfl) (v := S21 2 i14) (fl_2 _ _ (i := i14) (by omega)) dX7_cracks_142 ?_
              refine g_aload_n X 0 dX7_cracks_143 rfl rfl ?_
              refine g_get X (C := RX7) (T := TX7) (N := 21) (v := .ref (h 16)) inlX7 0 rfl rfl 20 (Nat.le_of_ble_eq_true rfl) kF_X7_57 rfl dX7_cracks_144 ?_
              refine g_iload_n X 1 dX7_cracks_147 rfl rfl ?_
              refine g_lald X 16 rfl (i14) rfl (by omega) (Nat.le_of_ble_eq_true rfl) (v := Y10 2 i14) rfl dX7_cracks_148 ?_
              refine g_ladd X (v := (S21 2 i14) + (Y10 2 i14)) dX7_cracks_149 rfl ?_
              obtain ⟨S22, eS22⟩ : ∃ z : St, z = u2 S21 2 i14 ((S21 2 i14) + (Y10 2 i14)) := ⟨_, rfl⟩
              refine g_last X (ws' := wM h cI cJ cZ th C N S22 Qk K P Y10) 1 rfl (24 + i14) (congrArg nI (show i14 + 24 = 24 + i14 by omega)) (by omega) (Nat.le_of_ble_eq_true rfl) dX7_cracks_150 (by rw [eS22]; first | done | (rw [flu_2 _ _ (i := i14) _ (by omega)]; rfl)) ?_
              refine g_iinc X [(1, .int (nI (i14 + 1))), (0, .ref (h 0))] (q := 1) (v := nI (i14 + 1)) dX7_cracks_151 rfl ((congrArg (fun z => nI (i14) + z) (show Int32.ofInt 1 = nI 1 by decide +kernel)).trans ((nI_add _ _).trans (congrArg nI (by omega)))) (Nat.le_of_ble_eq_true rfl) rfl ?_
              refine g_goto X (tgt := 92) dX7_cracks_154 (by decide) ?_
              refine g_lv _ [1, 0] rfl ?_
              exact ihL13 (i14 + 1) _ (by omega) (by (try rw [eS22]); (try rw [eS21]); (try rw [eS20]); (try rw [eS16]); first | done | (rfl))
          refine g_lv _ [1, 0] rfl ?_
          exact L13 (12) 0 _ (by omega) (by first | rfl | ((try rw [eY10]); (try rw [eY4]); first | done | rfl))
        | succ n9 ihL7 =>
          intro i8 Y10 hi11 eY10
          have hlti8 : i8 < 12 := by omega
          refine g_iload_n X 1 dX7_cracks_37 rfl rfl ?_
          refine g_bipush X (v := nI 12) dX7_cracks_38 (by decide +kernel) ?_
          refine g_icN_ge X (a := i8) (b := 12) (tgt := 90) (by omega) (by omega) dX7_cracks_40 (by decide) (fun h23 => absurd h23 (by omega)) (fun h23 => ?_)
          refine g_iload_n X 1 dX7_cracks_43 rfl rfl ?_
          refine g_iconst X (v := nI 4) dX7_cracks_44 (by decide +kernel) ?_
          refine g_irem X (v := nI (i8 % 4)) dX7_cracks_45 (by decide +kernel) (pk_rem (by omega) (by decide) (by decide)) ?_
          refine g_iconst X (v := nI 3) dX7_cracks_46 (by decide +kernel) ?_
          have J27 : ∀ (Y26 : St), Y26 = (if 3 ≤ (i8 % 4) then Y10 else (lkY S (C 0 i8) i8 (i8 + 1) Y10)) → g_G p l e rm_X7_cracks s m args below meth c D A 2 0 0 Q (wM h cI cJ cZ th C N S Qk K P Y26) [(0, .ref (h 0)), (1, .int (nI i8))] 64 [] := by
            intro Y26 eY26
            refine g_iload_n X 1 dX7_cracks_64 rfl rfl ?_
            refine g_bipush X (v := nI 8) dX7_cracks_65 (by decide +kernel) ?_
            have J31 : ∀ (Y30 : St), Y30 = (if 8 ≤ i8 then Y26 else (lkY S (C 1 i8) i8 (i8 + 4) Y26)) → g_G p l e rm_X7_cracks s m args below meth c D A 2 0 0 Q (wM h cI cJ cZ th C N S Qk K P Y30) [(0, .ref (h 0)), (1, .int (nI i8))] 84 [] := by
              intro Y30 eY30
              refine g_iinc X [(1, .int (nI (i8 + 1))), (0, .ref (h 0))] (q := 1) (v := nI (i8 + 1)) dX7_cracks_84 rfl ((congrArg (fun z => nI (i8) + z) (show Int32.ofInt 1 = nI 1 by decide +kernel)).trans ((nI_add _ _).trans (congrArg nI (by omega)))) (Nat.le_of_ble_eq_true rfl) rfl ?_
              refine g_goto X (tgt := 37) dX7_cracks_87 (by decide) ?_
              refine g_lv _ [1, 0] rfl ?_
              exact ihL7 (i8 + 1) _ (by omega) (by (try rw [eY30]); (try rw [eY26]); (try rw [eY10]); first | done | (rfl))
            refine g_icN_ge X (a := i8) (b := 8) (tgt := 84) (by omega) (by omega) dX7_cracks_67 (by decide) (fun h28 => ?_) (fun h28 => ?_)
            · --
              exact J31 _ (by rw [if_pos (c := 8 ≤ i8) h28])
            · --
              refine g_aload_n X 0 dX7_cracks_70 rfl rfl ?_
              refine g_iload_n X 1 dX7_cracks_71 rfl rfl ?_
              refine g_iload_n X 1 dX7_cracks_72 rfl rfl ?_
              refine g_iconst X (v := nI 4) dX7_cracks_73 (by decide +kernel) ?_
              refine g_iadd X (v := nI (i8 + 4)) dX7_cracks_74 ((nI_add _ _).trans (congrArg nI (by omega))) ?_
              refine g_aload_n X 0 dX7_cracks_75 rfl rfl ?_
              refine g_get X (C := RX7) (T := TX7) (N := 21) (v := .ref (h 4)) inlX7 0 rfl rfl 4 (Nat.le_of_ble_eq_true rfl) kF_X7_20 rfl dX7_cracks_76 ?_
              refine g_iload_n X 1 dX7_cracks_79 rfl rfl ?_
              refine g_iald X 4 rfl (i8) rfl (by omega) (Nat.le_of_ble_eq_true rfl) (v := C 1 i8) rfl dX7_cracks_80 ?_
              obtain ⟨Y29, eY29⟩ : ∃ z : St, z = lkY S (C 1 i8) i8 (i8 + 4) Y26 := ⟨_, rfl⟩
              refine g_callV X (As := [.int (nI i8), .int (nI (i8 + 4)), .int (C 1 i8)]) (rest := []) (m_X7_leaks l D cI cJ cZ h th C N S Qk K P Y26 i8 (i8 + 4) (C 1 i8) (by omega) (by omega) hW) kM_X7_151 kI_yX7_leaks kS_yX7_leaks kZ_RX7 kC_yX7_leaks hV_X7_leaks rfl rfl rfl 0 rfl (ci := 7) rfl ⟨Nat.le_of_ble_eq_true rfl, Nat.le_of_ble_eq_true rfl⟩ ⟨Nat.le_of_ble_eq_true rfl, Nat.le_of_ble_eq_true rfl⟩ (Nat.le_of_ble_eq_true rfl) dX7_cracks_81 rfl [0, 1, 2, 3, 4, 5, 6, 7, 8, 9, 10, 11, 12, 13, 14, 15, 16] rfl rfl (g_kk1 (w2 := wM h cI cJ cZ th C N S Qk K P Y29) (by rw [eY29]; exact ⟨[0, 1, 2, 3, 4, 5, 6, 7, 8, 9, 10, 11, 12, 13, 14, 15, 16], [], [0, 1, 2, 3, 4, 5, 6, 7, 8, 9, 10, 11, 12, 13, 14, 15, 16], [], rfl, rfl, rfl, rfl, by decide, rfl, rfl⟩) ?_)
              exact J31 _ (by (try rw [eY29]); rw [if_neg (c := 8 ≤ i8) h28])
          refine g_icN_ge X (a := (i8 % 4)) (b := 3) (tgt := 64) (by omega) (by omega) dX7_cracks_47 (by decide) (fun h24 => ?_) (fun h24 => ?_)
          · --
            exact J27 _ (by rw [if_pos (c := 3 ≤ (i8 % 4)) h24])
          · --
            refine g_aload_n X 0 dX7_cracks_50 rfl rfl ?_
            refine g_iload_n X 1 dX7_cracks_51 rfl rfl ?_
            refine g_iload_n X 1 dX7_cracks_52 rfl rfl ?_
            refine g_iconst X (v := nI 1) dX7_cracks_53 (by decide +kernel) ?_
            refine g_iadd X (v := nI (i8 + 1)) dX7_cracks_54 ((nI_add _ _).trans (congrArg nI (by omega))) ?_
            refine g_aload_n X 0 dX7_cracks_55 rfl rfl ?_
            refine g_get X (C := RX7) (T := TX7) (N := 21) (v := .ref (h 3)) inlX7 0 rfl rfl 3 (Nat.le_of_ble_eq_true rfl) kF_X7_16 rfl dX7_cracks_56 ?_
            refine g_iload_n X 1 dX7_cracks_59 rfl rfl ?_
            refine g_iald X 3 rfl (i8) rfl (by omega) (Nat.le_of_ble_eq_true rfl) (v := C 0 i8) rfl dX7_cracks_60 ?_
            obtain ⟨Y25, eY25⟩ : ∃ z : St, z = lkY S (C 0 i8) i8 (i8 + 1) Y10 := ⟨_, rfl⟩
            refine g_callV X (As := [.int (nI i8), .int (nI (i8 + 1)), .int (C 0 i8)]) (rest := []) (m_X7_leaks l D cI cJ cZ h th C N S Qk K P Y10 i8 (i8 + 1) (C 0 i8) (by omega) (by omega) hW) kM_X7_151 kI_yX7_leaks kS_yX7_leaks kZ_RX7 kC_yX7_leaks hV_X7_leaks rfl rfl rfl 0 rfl (ci := 7) rfl ⟨Nat.le_of_ble_eq_true rfl, Nat.le_of_ble_eq_true rfl⟩ ⟨Nat.le_of_ble_eq_true rfl, Nat.le_of_ble_eq_true rfl⟩ (Nat.le_of_ble_eq_true rfl) dX7_cracks_61 rfl [0, 1, 2, 3, 4, 5, 6, 7, 8, 9, 10, 11, 12, 13, 14, 15, 16] rfl rfl (g_kk1 (w2 := wM h cI cJ cZ th C N S Qk K P Y25) (by rw [eY25]; exact ⟨[0, 1, 2, 3, 4, 5, 6, 7, 8, 9, 10, 11, 12, 13, 14, 15, 16], [], [0, 1, 2, 3, 4, 5, 6, 7, 8, 9, 10, 11, 12, 13, 14, 15, 16], [], rfl, rfl, rfl, rfl, by decide, rfl, rfl⟩) ?_)
            exact J27 _ (by (try rw [eY25]); rw [if_neg (c := 3 ≤ (i8 % 4)) h24])
      refine g_lv _ [1, 0] rfl ?_
      exact L7 (12) 0 _ (by omega) (by first | rfl | ((try rw [eY4]); first | done | rfl))
    | succ n3 ihL1 =>
      intro i2 Y4 hi5 eY4
      have hlti2 : i2 < 12 := by omega
      refine g_iload_n X 1 dX7_cracks_2 rfl rfl ?_
      refine g_bipush X (v := nI 12) dX7_cracks_3 (by decide +kernel) ?_
      refine g_icN_ge X (a := i2) (b := 12) (tgt := 35) (by omega) (by omega) dX7_cracks_5 (by decide) (fun h32 => absurd h32 (by omega)) (fun h32 => ?_)
      refine g_aload_n X 0 dX7_cracks_8 rfl rfl ?_
      refine g_get X (C := RX7) (T := TX7) (N := 21) (v := .ref (h 14)) inlX7 0 rfl rfl 18 (Nat.le_of_ble_eq_true rfl) kF_X7_51 rfl dX7_cracks_9 ?_
      refine g_iload_n X 1 dX7_cracks_12 rfl rfl ?_
      refine g_lconst X (v := 0) dX7_cracks_13 (by decide +kernel) ?_
      obtain ⟨Y33, eY33⟩ : ∃ z : St, z = u2 Y4 0 i2 (0 : Int64) := ⟨_, rfl⟩
      refine g_last X (ws' := wM h cI cJ cZ th C N S Qk K P Y33) 14 rfl (i2) rfl (by omega) (Nat.le_of_ble_eq_true rfl) dX7_cracks_14 (by rw [eY33]; first | done | (rfl)) ?_
      refine g_aload_n X 0 dX7_cracks_15 rfl rfl ?_
      refine g_get X (C := RX7) (T := TX7) (N := 21) (v := .ref (h 15)) inlX7 0 rfl rfl 19 (Nat.le_of_ble_eq_true rfl) kF_X7_54 rfl dX7_cracks_16 ?_
      refine g_iload_n X 1 dX7_cracks_19 rfl rfl ?_
      refine g_lconst X (v := 0) dX7_cracks_20 (by decide +kernel) ?_
      obtain ⟨Y34, eY34⟩ : ∃ z : St, z = u2 Y33 1 i2 (0 : Int64) := ⟨_, rfl⟩
      refine g_last X (ws' := wM h cI cJ cZ th C N S Qk K P Y34) 15 rfl (i2) rfl (by omega) (Nat.le_of_ble_eq_true rfl) dX7_cracks_21 (by rw [eY34]; first | done | (rfl)) ?_
      refine g_aload_n X 0 dX7_cracks_22 rfl rfl ?_
      refine g_get X (C := RX7) (T := TX7) (N := 21) (v := .ref (h 16)) inlX7 0 rfl rfl 20 (Nat.le_of_ble_eq_true rfl) kF_X7_57 rfl dX7_cracks_23 ?_
      refine g_iload_n X 1 dX7_cracks_26 rfl rfl ?_
      refine g_lconst X (v := 0) dX7_cracks_27 (by decide +kernel) ?_
      obtain ⟨Y35, eY35⟩ : ∃ z : St, z = u2 Y34 2 i2 (0 : Int64) := ⟨_, rfl⟩
      refine g_last X (ws' := wM h cI cJ cZ th C N S Qk K P Y35) 16 rfl (i2) rfl (by omega) (Nat.le_of_ble_eq_true rfl) dX7_cracks_28 (by rw [eY35]; first | done | (rfl)) ?_
      refine g_iinc X [(1, .int (nI (i2 + 1))), (0, .ref (h 0))] (q := 1) (v := nI (i2 + 1)) dX7_cracks_29 rfl ((congrArg (fun z => nI (i2) + z) (show Int32.ofInt 1 = nI 1 by decide +kernel)).trans ((nI_add _ _).trans (congrArg nI (by omega)))) (Nat.le_of_ble_eq_true rfl) rfl ?_
      refine g_goto X (tgt := 2) dX7_cracks_32 (by decide) ?_
      refine g_lv _ [1, 0] rfl ?_
      exact ihL1 (i2 + 1) _ (by omega) (by (try rw [eY35]); (try rw [eY34]); (try rw [eY33]); (try rw [eY4]); first | done | (rfl))
  refine g_lv _ [1, 0] rfl ?_
  exact L1 (12) 0 _ (by omega) (by first | rfl | (first | done | rfl))
