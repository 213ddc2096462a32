/-! a month, step by step -/
def drW (C : Cf) (S : St) (w : Nat) : Int64 := if S 0 (plN C w) / 10 < wd C S w then S 0 (plN C w) / 10 else wd C S w
def stm (x hot : Int64) : Int64 := if hot ≤ 100 then 0 else x * (if 200 < hot - 100 then 200 else hot - 100) / 400
def dr1 (C : Cf) (S : St) (w : Nat) : St := findS (giveS (u2 S 5 w (drW C S w)) (plN C w) (drW C S w)) w (gone (u2 S 5 w (drW C S w)) (plN C w) (drW C S w))
def dr2 (C : Cf) (S : St) (w : Nat) (x hot : Int64) : St := u2 (u2 (u2 (dr1 C S w) 12 1 (dr1 C S w 12 1 + stm x hot)) 12 6 (dr1 C S w 12 6 + stm x hot * (if 0 < hot - 60 then hot - 60 else 0) / 10)) 12 7 (dr1 C S w 12 7 + x * hot)
def dr3 (C : Cf) (S : St) (w : Nat) (x hot : Int64) : St := if hot ≤ 160 then dr2 C S w x hot else if x ≤ 0 then dr2 C S w x hot else growS (dr2 C S w x hot) w x
def drawS (C : Cf) (N : Nat → Nat) (S : St) (w : Nat) : St := itr (chgS C (plN C w) w (drW C S w)) (dr3 C S w (drW C S w) (deg S (plN C w))) (N 2)
/-- brine of one well, and its degrees times it -/
def brW (C : Cf) (S : St) (w : Nat) : Int64 := drW C S w - stm (drW C S w) (deg S (plN C w))
def bhW (C : Cf) (S : St) (w : Nat) : Int64 := brW C S w * (if 100 < deg S (plN C w) then 100 else deg S (plN C w))
def Wk (k : Int) (S : St) : Prop := ∀ b, b < 12 → 0 ≤ (S 0 b).toInt ∧ (S 0 b).toInt ≤ k
theorem Wk.ok {k : Int} {S : St} (h : Wk k S) (hk : k ≤ 1099511627776) : Wok S := fun b hb => ⟨(h b hb).1, Int.le_trans (h b hb).2 hk⟩
/-- what the wells' rows are -/
def Wel (N : Nat → Nat) (S : St) : Prop := (∀ w, w < N 0 → S 4 w = lN (scN S w) ∧ scN S w ≤ 100) ∧ (∀ w, w < N 0 → -1 ≤ (S 8 w).toInt ∧ (S 8 w).toInt ≤ 1000) ∧ (0 ≤ (S 13 0).toInt ∧ (S 13 0).toInt ≤ 1000)
def dwS (C : Cf) (N : Nat → Nat) (w : Nat) (S : St) : St := if drw C S w = false then S else drawS C N S w
def brn (C : Cf) (N : Nat → Nat) (S : St) (n : Nat) : Int64 := itr (fun w a => if drw C (itr (dwS C N) S w) w = false then a else a + brW C (itr (dwS C N) S w) w) 0 n
def brh (C : Cf) (N : Nat → Nat) (S : St) (n : Nat) : Int64 := itr (fun w a => if drw C (itr (dwS C N) S w) w = false then a else a + bhW C (itr (dwS C N) S w) w) 0 n
theorem z4 (Z : St) (a b c d : Int64) : u2 (u2 (u2 (u2 Z 3 0 a) 3 1 b) 3 0 c) 3 1 d = u2 (u2 Z 3 0 c) 3 1 d := by
  funext i j
  simp only [u2_ap]
  by_cases h1 : i = 3 ∧ j = 1
  · simp [h1]
  · by_cases h2 : i = 3 ∧ j = 0 <;> simp [h1, h2]
theorem brn_s (C : Cf) (N : Nat → Nat) (S : St) (n : Nat) : brn C N S (n + 1) = if drw C (itr (dwS C N) S n) n = false then brn C N S n else brn C N S n + brW C (itr (dwS C N) S n) n := rfl
theorem brh_s (C : Cf) (N : Nat → Nat) (S : St) (n : Nat) : brh C N S (n + 1) = if drw C (itr (dwS C N) S n) n = false then brh C N S n else brh C N S n + bhW C (itr (dwS C N) S n) n := rfl
theorem brZ (Z : St) (c : Prop) [Decidable c] (a b x y : Int64) : (if c then u2 (u2 Z 3 0 a) 3 1 b else u2 (u2 (u2 (u2 Z 3 0 a) 3 1 b) 3 0 (a + x)) 3 1 (b + y)) = u2 (u2 Z 3 0 (if c then a else a + x)) 3 1 (if c then b else b + y) := by
  by_cases h : c
  · rw [if_pos h, if_pos h, if_pos h]
  · rw [if_neg h, if_neg h, if_neg h, z4]
theorem scok_c {S T : St} {w : Nat} (h : T 4 = S 4) (hs : S 4 w = lN (scN S w) ∧ scN S w ≤ 100) : T 4 w = lN (scN T w) ∧ scN T w ≤ 100 := by
  unfold scN
  rw [h]
  exact hs
theorem z_lt (a b : Int64) : a < b ↔ a.toInt < b.toInt := Int64.lt_iff_toInt_lt
theorem z_le (a b : Int64) : a ≤ b ↔ a.toInt ≤ b.toInt := Int64.le_iff_toInt_le
theorem z_eq (a b : Int64) : a = b ↔ a.toInt = b.toInt := Int64.toInt_inj.symm
theorem z_add {x y : Int64} (h1 : -9223372036854775808 ≤ x.toInt + y.toInt) (h2 : x.toInt + y.toInt < 9223372036854775808) : (x + y).toInt = x.toInt + y.toInt := by
  rw [Int64.toInt_add]
  exact Int.bmod_eq_of_le (by omega) (by omega)
theorem z_sub {x y : Int64} (h1 : -9223372036854775808 ≤ x.toInt - y.toInt) (h2 : x.toInt - y.toInt < 9223372036854775808) : (x - y).toInt = x.toInt - y.toInt := by
  rw [Int64.toInt_sub]
  exact Int.bmod_eq_of_le (by omega) (by omega)
theorem z_mul {x y : Int64} (h1 : -9223372036854775808 ≤ x.toInt * y.toInt) (h2 : x.toInt * y.toInt < 9223372036854775808) : (x * y).toInt = x.toInt * y.toInt := by
  rw [Int64.toInt_mul]
  exact Int.bmod_eq_of_le (by omega) (by omega)
theorem itr_c {f : Nat → St → St} {c : Nat} (h : ∀ n S, f n S c = S c) (S : St) : ∀ n, itr f S n c = S c
  | 0 => rfl
  | n + 1 => (h n _).trans (itr_c h S n)
theorem chgS_c {C : Cf} {b w k : Nat} {x : Int64} {S : St} {c : Nat} (h : ¬ c = 11) : chgS C b w x k S c = S c := by
  unfold chgS
  split
  · rfl
  · exact u2_c _ _ _ h
theorem giveS_c {S : St} {b : Nat} {x : Int64} {c : Nat} (h0 : ¬ c = 0) (h1 : ¬ c = 1) (h2 : ¬ c = 2) : giveS S b x c = S c := by
  unfold giveS
  rw [u2_c _ _ _ h0, u2_c _ _ _ h2, u2_c _ _ _ h1]
theorem giveS_0 {S : St} {b : Nat} {x : Int64} {j : Nat} : giveS S b x 0 j = if j = b then S 0 b - x else S 0 j := by
  unfold giveS
  rw [u2_ap]
  by_cases h : j = b
  · rw [if_pos ⟨rfl, h⟩, if_pos h]
  · rw [if_neg (fun z => h z.2), if_neg h, u2_c _ _ _ (by decide), u2_c _ _ _ (by decide)]
theorem growS_c {S : St} {w : Nat} {x : Int64} {c : Nat} (h : ¬ c = 4) : growS S w x c = S c := u2_c _ _ _ h
theorem dr2_c {C : Cf} {S : St} {w : Nat} {x hot : Int64} {c : Nat} (h : ¬ c = 12) : dr2 C S w x hot c = dr1 C S w c := by
  unfold dr2
  rw [u2_c _ _ _ h, u2_c _ _ _ h, u2_c _ _ _ h]
theorem dr3_c {C : Cf} {S : St} {w : Nat} {x hot : Int64} {c : Nat} (h : ¬ c = 12) (h4 : ¬ c = 4) : dr3 C S w x hot c = dr1 C S w c := by
  unfold dr3
  split
  · exact dr2_c h
  · split
    · exact dr2_c h
    · rw [growS_c h4]
      exact dr2_c h
theorem dv_ok {x : Int64} {c : Nat} (h : 0 ≤ x.toInt) (hc : 0 < c) (hc2 : c < 2 ^ 63) : (x / lN c).toInt = x.toInt / c := by
  obtain ⟨n, hn, rfl⟩ := pk_lOf (x := x) (fun z => by rw [z_lt] at z; have : (0 : Int64).toInt = 0 := rfl; omega)
  rw [pk_lDiv hn hc hc2, pk_lT hn, pk_lT (Nat.lt_of_le_of_lt (Nat.div_le_self _ _) hn)]
  rfl
theorem wd_ok {C : Cf} {S : St} {w : Nat} (hm : muN C w ≤ 1000) : 0 ≤ (wd C S w).toInt ∧ (wd C S w).toInt ≤ 1000 := by
  have h2 := Nat.mul_le_mul hm (show 100 - scN S w ≤ 100 by omega)
  unfold wd
  rw [lN_toInt (by omega)]
  omega
theorem drW_ok {C : Cf} {S : St} {w : Nat} (hm : muN C w ≤ 1000) (h0 : 0 ≤ (S 0 (plN C w)).toInt) : 0 ≤ (drW C S w).toInt ∧ (drW C S w).toInt ≤ (S 0 (plN C w)).toInt ∧ (drW C S w).toInt ≤ 1000 := by
  have h1 := wd_ok (S := S) hm
  have h2 : (S 0 (plN C w) / 10).toInt = (S 0 (plN C w)).toInt / 10 := dv_ok h0 (by decide) (by decide)
  unfold drW
  split
  · rename_i h
    rw [z_lt] at h
    omega
  · rename_i h
    rw [z_lt] at h
    omega
theorem sc_of {S : St} {w n : Nat} (h : S 4 w = lN n) (hn : n ≤ 100) : S 4 w = lN (scN S w) ∧ scN S w ≤ 100 := by
  have : scN S w = n := by
    unfold scN
    rw [h, lN_toInt (by omega)]
    rfl
  rw [this]
  exact ⟨h, hn⟩
theorem drawS_0 {C : Cf} {N : Nat → Nat} {S : St} {w j : Nat} : drawS C N S w 0 j = if j = plN C w then S 0 (plN C w) - drW C S w else S 0 j := by
  unfold drawS
  rw [itr_c (fun n T => chgS_c (by decide)), dr3_c (by decide) (by decide)]
  unfold dr1
  rw [findS_oth _ _ _ (by decide) (by decide), giveS_0]
  rfl
theorem drawS_13 {C : Cf} {N : Nat → Nat} {S : St} {w : Nat} {c : Nat} (h0 : ¬ c = 0) (h1 : ¬ c = 1) (h2 : ¬ c = 2) (h4 : ¬ c = 4) (h5 : ¬ c = 5) (h7 : ¬ c = 7) (h8 : ¬ c = 8) (h11 : ¬ c = 11) (h12 : ¬ c = 12) : drawS C N S w c = S c := by
  unfold drawS
  rw [itr_c (fun n T => chgS_c h11), dr3_c h12 h4]
  unfold dr1
  rw [findS_oth _ _ _ h7 h8, giveS_c h0 h1 h2, u2_c _ _ _ h5]
theorem drawS_8 {C : Cf} {N : Nat → Nat} {S : St} {w j : Nat} : drawS C N S w 8 j = S 8 j ∨ drawS C N S w 8 j = S 13 0 := by
  unfold drawS
  rw [itr_c (fun n T => chgS_c (by decide)), dr3_c (by decide) (by decide)]
  unfold dr1 findS
  split
  · left
    rw [u2_c _ _ _ (by decide), giveS_c (by decide) (by decide) (by decide), u2_c _ _ _ (by decide)]
  · split
    · left
      rw [u2_c _ _ _ (by decide), giveS_c (by decide) (by decide) (by decide), u2_c _ _ _ (by decide)]
    · rw [u2_ap]
      split
      · right
        rw [giveS_c (by decide) (by decide) (by decide), u2_c _ _ _ (by decide)]
      · left
        rw [u2_c _ _ _ (by decide), giveS_c (by decide) (by decide) (by decide), u2_c _ _ _ (by decide)]
theorem dr1_4 {C : Cf} {S : St} {w : Nat} : dr1 C S w 4 = S 4 := by
  unfold dr1
  rw [findS_oth _ _ _ (by decide) (by decide), giveS_c (by decide) (by decide) (by decide), u2_c _ _ _ (by decide)]
theorem drawS_4 {C : Cf} {N : Nat → Nat} {S : St} {w : Nat} : drawS C N S w 4 = S 4 ∨ (¬ drW C S w ≤ 0 ∧ drawS C N S w 4 = fun j => if j = w then (if 100 < S 4 w + 1 + drW C S w / 500 then 100 else S 4 w + 1 + drW C S w / 500) else S 4 j) := by
  unfold drawS
  rw [itr_c (fun n T => chgS_c (by decide))]
  unfold dr3
  split
  · left
    rw [dr2_c (by decide), dr1_4]
  · split
    · left
      rw [dr2_c (by decide), dr1_4]
    · right
      rename_i h
      refine ⟨h, ?_⟩
      funext j
      unfold growS
      rw [u2_ap, dr2_c (by decide), dr1_4]
      by_cases hj : j = w
      · rw [if_pos ⟨rfl, hj⟩, if_pos hj]
      · rw [if_neg (fun z => hj z.2), if_neg hj]
theorem dw1 (C : Cf) (N : Nat → Nat) (S : St) (k : Int) (hC : Cok C N) (hW : Wk k S) (hk : k ≤ 1099511627776) (hE : Wel N S) (w : Nat) (hw : w < N 0) : Wk k (dwS C N w S) ∧ Wel N (dwS C N w S) := by
  unfold dwS
  split
  · exact ⟨hW, hE⟩
  · have hb := (hC.pl hw).2
    have hd := drW_ok (S := S) (hC.mu hw).2 (hW _ hb).1
    refine ⟨fun b hb2 => ?_, fun w2 hw2 => ?_, fun w2 hw2 => ?_, ?_⟩
    · rw [drawS_0]
      have h1 := hW _ hb
      have h2 := hW _ hb2
      split
      · rw [z_sub (by omega) (by omega)]
        omega
      · exact h2
    · rcases drawS_4 (C := C) (N := N) (S := S) (w := w) with h | ⟨hp, h⟩
      · exact scok_c h (hE.1 w2 hw2)
      · by_cases hj : w2 = w
        · subst hj
          obtain ⟨x, hx, ex⟩ := pk_lOf (x := drW C S w2) (fun z => by rw [z_lt] at z; have : (0 : Int64).toInt = 0 := rfl; omega)
          have hx2 : x ≤ 1000 := by
            have := hd.2.2
            rw [ex, pk_lT hx] at this
            omega
          have hs := hE.1 w2 hw2
          have e2 : S 4 w2 + 1 + drW C S w2 / 500 = lN (scN S w2 + 1 + x / 500) := by
            rw [ex, hs.1]
            show lN _ + lN 1 + lN x / lN 500 = _
            rw [pk_lDiv hx (by decide) (by decide), lN_add, lN_add]
          have e3 : drawS C N S w2 4 w2 = (if 100 < S 4 w2 + 1 + drW C S w2 / 500 then 100 else S 4 w2 + 1 + drW C S w2 / 500) := by
            rw [h]
            exact if_pos rfl
          have h3 := hs.2
          have hl : (100 : Int64) < lN (scN S w2 + 1 + x / 500) ↔ 100 < scN S w2 + 1 + x / 500 := lN_lt (a := 100) (by decide) (by omega)
          rw [e2] at e3
          by_cases hh : 100 < scN S w2 + 1 + x / 500
          · rw [if_pos (hl.mpr hh)] at e3
            exact sc_of (n := 100) e3 (by decide)
          · rw [if_neg (fun z => hh (hl.mp z))] at e3
            exact sc_of e3 (by omega)
        · have e3 : drawS C N S w 4 w2 = S 4 w2 := by
            rw [h]
            exact if_neg hj
          have hs := hE.1 w2 hw2
          exact sc_of (e3.trans hs.1) hs.2
    · rcases drawS_8 (C := C) (N := N) (S := S) (w := w) (j := w2) with h | h
      · rw [h]
        exact hE.2.1 w2 hw2
      · rw [h]
        have := hE.2.2
        omega
    · rw [drawS_13 (by decide) (by decide) (by decide) (by decide) (by decide) (by decide) (by decide) (by decide) (by decide)]
      exact hE.2.2
theorem dw_ok (C : Cf) (N : Nat → Nat) (S : St) (k : Int) (hC : Cok C N) (hW : Wk k S) (hk : k ≤ 1099511627776) (hE : Wel N S) : ∀ n, n ≤ N 0 → Wk k (itr (dwS C N) S n) ∧ Wel N (itr (dwS C N) S n)
  | 0, _ => ⟨hW, hE⟩
  | n + 1, h => dw1 C N _ k hC (dw_ok C N S k hC hW hk hE n (by omega)).1 hk (dw_ok C N S k hC hW hk hE n (by omega)).2 n h

theorem hV_X0_draw : yX0_draw.cls = RX0 ∧ yX0_draw.cls ≠ "java/lang/invoke/MethodHandle" ∧ yX0_draw.cls ≠ "java/lang/invoke/VarHandle" ∧ (parseMethodDescriptor yX0_draw.desc).map (fun d => d.parameters.length) = some 1 := by decide +kernel
abbrev rm_X0_draw : Room := { frames := 3, cells := 0, slots := 0, locals := 69 }
set_option maxRecDepth 100000 in
set_option maxHeartbeats 4000000 in
theorem m_X0_draw (l : Launch) (D : va_G) (cI cJ cZ : ClassId) (f : Nat → Nat) (C : Cf) (N : Nat → Nat) (S : St) (Qk : Nat → Int64) (Z : St) (w : Nat) (hC : Cok C N) (hW : Wok S) (hE : Wel N S) (hw : w < N 0) : g_Ct l D cI cJ cZ yX0_draw cX0_draw 9 none rm_X0_draw 0 0 [.ref (f 0), .int (nI w)] (wF f cI cJ cZ C N S Qk Z) (g_eq none (wF f cI cJ cZ C N (drawS C N S w) Qk (u2 (u2 Z 3 0 (Z 3 0 + brW C S w)) 3 1 (Z 3 1 + bhW C S w)))) := by
  refine g_body RX0 [(0, .ref (f 0)), (1, .int (nI w))] kH_X0 rfl (Nat.le_of_ble_eq_true rfl) rfl ?_
  intro p e s m args below meth c A X hr hlk hmn Q hQ
  have hN0 := hC.n0
  have hN1 := hC.n1
  have hN2 := hC.n2
  have hpl := (hC.pl hw).2
  refine g_aload_n X 0 dX0_draw_0 rfl rfl ?_
  refine g_get X (C := RX0) (T := TX0) (N := 11) (v := .ref (f 11)) inlX0 0 rfl rfl 3 (Nat.le_of_ble_eq_true rfl) kF_X0_28 rfl dX0_draw_1 ?_
  refine g_get X (C := RX5) (T := TX5) (N := 9) (v := .ref (f 12)) inlX5 11 rfl rfl 1 (Nat.le_of_ble_eq_true rfl) kF_X0_121 rfl dX0_draw_4 ?_
  refine g_iload_n X 1 dX0_draw_7 rfl rfl ?_
  refine g_iald X 12 rfl (w) rfl (by omega) (Nat.le_of_ble_eq_true rfl) (v := nI (plN C w)) (hC.pl hw).1 dX0_draw_8 ?_
  refine g_istore_n X [(2, .int (nI (plN C w))), (0, .ref (f 0)), (1, .int (nI w))] dX0_draw_9 rfl (Nat.le_of_ble_eq_true rfl) rfl ?_
  refine g_aload_n X 1 dX0_draw_10 rfl rfl ?_
  refine g_get X (C := RX0) (T := TX0) (N := 11) (v := .ref (f 1)) inlX0 0 rfl rfl 2 (Nat.le_of_ble_eq_true rfl) kF_X0_21 rfl dX0_draw_11 ?_
  refine g_iload_n X 0 dX0_draw_14 rfl rfl ?_
  refine g_callV X (As := [.int (nI (plN C w))]) (rest := []) (m_X1_degrees l D cI cJ cZ (fun i => f (1 + i)) C S Z (plN C w) hpl (hW.ne hpl)) kM_X0_151 kI_yX1_degrees kS_yX1_degrees kZ_RX1 kC_yX1_degrees hV_X1_degrees rfl rfl rfl 0 rfl (ci := 1) rfl ⟨Nat.le_of_ble_eq_true rfl, Nat.le_of_ble_eq_true rfl⟩ ⟨Nat.le_of_ble_eq_true rfl, Nat.le_of_ble_eq_true rfl⟩ (Nat.le_of_ble_eq_true rfl) dX0_draw_15 rfl (em_I 1 10 11 0) (em_C (by decide) (Nat.le_of_ble_eq_true rfl) rfl) (em_nd (by decide)) (g_kk1 (w2 := wF f cI cJ cZ C N S Qk Z) (em3 1 10 11 0 (by decide) (Nat.le_of_ble_eq_true rfl) rfl rfl rfl) ?_)
  refine g_lstore_n X [(3, .long (deg S (plN C w))), (2, .int (nI (plN C w))), (0, .ref (f 0)), (1, .int (nI w))] dX0_draw_18 rfl (Nat.le_of_ble_eq_true rfl) rfl ?_
  refine g_aload_n X 2 dX0_draw_19 rfl rfl ?_
  refine g_get X (C := RX0) (T := TX0) (N := 11) (v := .ref (f 11)) inlX0 0 rfl rfl 3 (Nat.le_of_ble_eq_true rfl) kF_X0_28 rfl dX0_draw_20 ?_
  refine g_iload_n X 3 dX0_draw_23 rfl rfl ?_
  refine g_callV X (As := [.int (nI w)]) (rest := []) (m_X5_wouldDraw l D cI cJ cZ (fun i => f (11 + i)) C N S w (by omega) (hC.mu hw) (hE.1 w hw)) kM_X0_155 kI_yX5_wouldDraw kS_yX5_wouldDraw kZ_RX5 kC_yX5_wouldDraw hV_X5_wouldDraw rfl rfl rfl 0 rfl (ci := 5) rfl ⟨Nat.le_of_ble_eq_true rfl, Nat.le_of_ble_eq_true rfl⟩ ⟨Nat.le_of_ble_eq_true rfl, Nat.le_of_ble_eq_true rfl⟩ (Nat.le_of_ble_eq_true rfl) dX0_draw_24 rfl (em_I 11 9 20 0) (em_C (by decide) (Nat.le_of_ble_eq_true rfl) rfl) (em_nd (by decide)) (g_kk1 (w2 := wF f cI cJ cZ C N S Qk Z) (em3 11 9 20 0 (by decide) (Nat.le_of_ble_eq_true rfl) rfl rfl rfl) ?_)
  refine g_aload_n X 2 dX0_draw_27 rfl rfl ?_
  refine g_get X (C := RX0) (T := TX0) (N := 11) (v := .ref (f 1)) inlX0 0 rfl rfl 2 (Nat.le_of_ble_eq_true rfl) kF_X0_21 rfl dX0_draw_28 ?_
  refine g_get X (C := RX1) (T := TX1) (N := 9) (v := .ref (f 2)) inlX1 1 rfl rfl 0 (Nat.le_of_ble_eq_true rfl) kF_X0_137 rfl dX0_draw_31 ?_
  refine g_iload_n X 1 dX0_draw_34 rfl rfl ?_
  refine g_lald X 2 rfl (plN C w) rfl (by omega) (Nat.le_of_ble_eq_true rfl) (v := S 0 (plN C w)) rfl dX0_draw_35 ?_
  refine g_ldc2 X kL_X0_158 dX0_draw_36 ?_
  refine g_ldiv X (v := (S 0 (plN C w)) / (10 : Int64)) dX0_draw_39 (by decide +kernel) rfl ?_
  refine g_mmin_long X (v := if ((S 0 (plN C w)) / (10 : Int64)) < (wd C S w) then (S 0 (plN C w)) / (10 : Int64) else wd C S w) kT_min_long kM_X0_160 kZ_Math kC_min_long (Nat.le_of_ble_eq_true rfl) (Nat.le_of_ble_eq_true rfl) (Nat.le_of_ble_eq_true rfl) (Nat.le_of_ble_eq_true rfl) rfl dX0_draw_40 ?_
  refine g_lstore X [(5, .long (if ((S 0 (plN C w)) / (10 : Int64)) < (wd C S w) then (S 0 (plN C w)) / (10 : Int64) else wd C S w)), (3, .long (deg S (plN C w))), (2, .int (nI (plN C w))), (0, .ref (f 0)), (1, .int (nI w))] dX0_draw_43 (Nat.le_of_ble_eq_true rfl) rfl ?_
  refine g_lload_n X 1 dX0_draw_45 rfl rfl ?_
  refine g_ldc2 X kL_X0_166 dX0_draw_46 ?_
  have J3 : ∀ (v2 : Int64), v2 = (if (deg S (plN C w)) ≤ (100 : Int64) then (0 : Int64) else ((if ((S 0 (plN C w)) / (10 : Int64)) < (wd C S w) then (S 0 (plN C w)) / (10 : Int64) else wd C S w) * (if (200 : Int64) < ((deg S (plN C w)) - (100 : Int64)) then (200 : Int64) else (deg S (plN C w)) - (100 : Int64))) / (400 : Int64)) → g_G p l e rm_X0_draw s m args below meth c D A 9 0 0 Q (wF f cI cJ cZ C N S Qk Z) [(0, .ref (f 0)), (1, .int (nI w)), (2, .int (nI (plN C w))), (3, .long (deg S (plN C w))), (5, .long (if ((S 0 (plN C w)) / (10 : Int64)) < (wd C S w) then (S 0 (plN C w)) / (10 : Int64) else wd C S w))] 75 [.long v2] := by
    intro v2 ev2
    refine g_lstore X [(7, .long v2), (0, .ref (f 0)), (1, .int (nI w)), (2, .int (nI (plN C w))), (3, .long (deg S (plN C w))), (5, .long (if ((S 0 (plN C w)) / (10 : Int64)) < (wd C S w) then (S 0 (plN C w)) / (10 : Int64) else wd C S w))] dX0_draw_75 (Nat.le_of_ble_eq_true rfl) rfl ?_
    refine g_aload_n X 1 dX0_draw_77 rfl rfl ?_
    refine g_get X (C := RX0) (T := TX0) (N := 11) (v := .ref (f 11)) inlX0 0 rfl rfl 3 (Nat.le_of_ble_eq_true rfl) kF_X0_28 rfl dX0_draw_78 ?_
    refine g_get X (C := RX5) (T := TX5) (N := 9) (v := .ref (f 16)) inlX5 11 rfl rfl 5 (Nat.le_of_ble_eq_true rfl) kF_X0_110 rfl dX0_draw_81 ?_
    refine g_iload_n X 2 dX0_draw_84 rfl rfl ?_
    refine g_lload X 5 dX0_draw_85 rfl ?_
    obtain ⟨S4, eS4⟩ : ∃ z : St, z = u2 S 5 w (if ((S 0 (plN C w)) / (10 : Int64)) < (wd C S w) then (S 0 (plN C w)) / (10 : Int64) else wd C S w) := ⟨_, rfl⟩
    refine g_last X (ws' := wF f cI cJ cZ C N S4 Qk Z) 16 rfl (w) rfl (by omega) (Nat.le_of_ble_eq_true rfl) dX0_draw_87 (by rw [eS4]; first | done | (rfl)) ?_
    refine g_aload_n X 1 dX0_draw_88 rfl rfl ?_
    refine g_get X (C := RX0) (T := TX0) (N := 11) (v := .ref (f 11)) inlX0 0 rfl rfl 3 (Nat.le_of_ble_eq_true rfl) kF_X0_28 rfl dX0_draw_89 ?_
    refine g_iload_n X 2 dX0_draw_92 rfl rfl ?_
    refine g_aload_n X 1 dX0_draw_93 rfl rfl ?_
    refine g_get X (C := RX0) (T := TX0) (N := 11) (v := .ref (f 1)) inlX0 0 rfl rfl 2 (Nat.le_of_ble_eq_true rfl) kF_X0_21 rfl dX0_draw_94 ?_
    refine g_iload_n X 3 dX0_draw_97 rfl rfl ?_
    refine g_lload X 5 dX0_draw_98 rfl ?_
    obtain ⟨S5, eS5⟩ : ∃ z : St, z = giveS S4 (plN C w) (if ((S 0 (plN C w)) / (10 : Int64)) < (wd C S w) then (S 0 (plN C w)) / (10 : Int64) else wd C S w) := ⟨_, rfl⟩
    refine g_callV X (As := [.int (nI (plN C w)), .long (if ((S 0 (plN C w)) / (10 : Int64)) < (wd C S w) then (S 0 (plN C w)) / (10 : Int64) else wd C S w)]) (rest := [.int (nI w), .ref (f 11)]) (m_X1_give l D cI cJ cZ (fun i => f (1 + i)) C S4 Z (plN C w) (if ((S 0 (plN C w)) / (10 : Int64)) < (wd C S w) then (S 0 (plN C w)) / (10 : Int64) else wd C S w) hpl (by (try rw [eS4]); (try rw [ev2]); exact hW)) kM_X0_172 kI_yX1_give kS_yX1_give kZ_RX1 kC_yX1_give hV_X1_give rfl rfl rfl 0 rfl (ci := 1) rfl ⟨Nat.le_of_ble_eq_true rfl, Nat.le_of_ble_eq_true rfl⟩ ⟨Nat.le_of_ble_eq_true rfl, Nat.le_of_ble_eq_true rfl⟩ (Nat.le_of_ble_eq_true rfl) dX0_draw_100 rfl (em_I 1 10 11 0) (em_C (by decide) (Nat.le_of_ble_eq_true rfl) rfl) (em_nd (by decide)) (g_kk1 (w2 := wF f cI cJ cZ C N S5 Qk Z) (by rw [eS5]; exact (em3 1 10 11 0 (by decide) (Nat.le_of_ble_eq_true rfl) rfl rfl rfl)) ?_)
    refine g_aload_n X 1 dX0_draw_103 rfl rfl ?_
    refine g_get X (C := RX0) (T := TX0) (N := 11) (v := .int ((S5 13 0).toInt32)) inlX0 0 rfl rfl 0 (Nat.le_of_ble_eq_true rfl) kF_X0_9 rfl dX0_draw_104 ?_
    obtain ⟨S6, eS6⟩ : ∃ z : St, z = findS S5 w (gone S4 (plN C w) (if ((S 0 (plN C w)) / (10 : Int64)) < (wd C S w) then (S 0 (plN C w)) / (10 : Int64) else wd C S w)) := ⟨_, rfl⟩
    refine g_callV X (As := [.int (nI w), .long (gone S4 (plN C w) (if ((S 0 (plN C w)) / (10 : Int64)) < (wd C S w) then (S 0 (plN C w)) / (10 : Int64) else wd C S w)), .int ((S5 13 0).toInt32)]) (rest := []) (m_X5_find l D cI cJ cZ (fun i => f (11 + i)) C N S5 w (gone S4 (plN C w) (if ((S 0 (plN C w)) / (10 : Int64)) < (wd C S w) then (S 0 (plN C w)) / (10 : Int64) else wd C S w)) (by omega) (by (try rw [eS5]); (try rw [eS4]); (try rw [ev2]); exact hE.2.1 w hw)) kM_X0_176 kI_yX5_find kS_yX5_find kZ_RX5 kC_yX5_find hV_X5_find rfl rfl rfl 0 rfl (ci := 5) rfl ⟨Nat.le_of_ble_eq_true rfl, Nat.le_of_ble_eq_true rfl⟩ ⟨Nat.le_of_ble_eq_true rfl, Nat.le_of_ble_eq_true rfl⟩ (Nat.le_of_ble_eq_true rfl) dX0_draw_107 rfl (em_I 11 9 20 0) (em_C (by decide) (Nat.le_of_ble_eq_true rfl) rfl) (em_nd (by decide)) (g_kk1 (w2 := wF f cI cJ cZ C N S6 Qk Z) (by rw [eS6]; exact (em3 11 9 20 0 (by decide) (Nat.le_of_ble_eq_true rfl) rfl rfl (by rw [wF_w (S' := findS S5 w (gone S4 (plN C w) (if ((S 0 (plN C w)) / (10 : Int64)) < (wd C S w) then (S 0 (plN C w)) / (10 : Int64) else wd C S w))) (S := S5) (fun c h => findS_oth _ _ _ (by omega) (by omega))]; rfl))) ?_)
    refine g_aload_n X 1 dX0_draw_110 rfl rfl ?_
    refine g_dup X dX0_draw_111 rfl ?_
    refine g_get X (C := RX0) (T := TX0) (N := 11) (v := .long (Z 3 0)) inlX0 0 rfl rfl 8 (Nat.le_of_ble_eq_true rfl) kF_X0_57 rfl dX0_draw_112 ?_
    refine g_lload X 5 dX0_draw_115 rfl ?_
    refine g_lload X 0 dX0_draw_117 rfl ?_
    refine g_lsub X (v := (if ((S 0 (plN C w)) / (10 : Int64)) < (wd C S w) then (S 0 (plN C w)) / (10 : Int64) else wd C S w) - v2) dX0_draw_119 rfl ?_
    refine g_ladd X (v := (Z 3 0) + ((if ((S 0 (plN C w)) / (10 : Int64)) < (wd C S w) then (S 0 (plN C w)) / (10 : Int64) else wd C S w) - v2)) dX0_draw_120 rfl ?_
    obtain ⟨X7, eX7⟩ : ∃ z : St, z = u2 Z 3 0 ((Z 3 0) + ((if ((S 0 (plN C w)) / (10 : Int64)) < (wd C S w) then (S 0 (plN C w)) / (10 : Int64) else wd C S w) - v2)) := ⟨_, rfl⟩
    refine g_put X (C := RX0) (T := TX0) (N := 11) (ws' := wF f cI cJ cZ C N S6 Qk X7) inlX0 tyX0 tyX0_ok nmX0 0 rfl rfl 8 (Nat.le_of_ble_eq_true rfl) kF_X0_57 rfl rfl rfl (Nat.le_of_ble_eq_true rfl) dX0_draw_121 (by rw [eX7]; first | done | (rfl)) ?_
    refine g_aload_n X 1 dX0_draw_124 rfl rfl ?_
    refine g_dup X dX0_draw_125 rfl ?_
    refine g_get X (C := RX0) (T := TX0) (N := 11) (v := .long (X7 3 1)) inlX0 0 rfl rfl 9 (Nat.le_of_ble_eq_true rfl) kF_X0_61 rfl dX0_draw_126 ?_
    refine g_lload X 5 dX0_draw_129 rfl ?_
    refine g_lload X 0 dX0_draw_131 rfl ?_
    refine g_lsub X (v := (if ((S 0 (plN C w)) / (10 : Int64)) < (wd C S w) then (S 0 (plN C w)) / (10 : Int64) else wd C S w) - v2) dX0_draw_133 rfl ?_
    refine g_lload_n X 4 dX0_draw_134 rfl rfl ?_
    refine g_ldc2 X kL_X0_166 dX0_draw_135 ?_
    refine g_mmin_long X (v := if (100 : Int64) < (deg S (plN C w)) then (100 : Int64) else deg S (plN C w)) kT_min_long kM_X0_160 kZ_Math kC_min_long (Nat.le_of_ble_eq_true rfl) (Nat.le_of_ble_eq_true rfl) (Nat.le_of_ble_eq_true rfl) (Nat.le_of_ble_eq_true rfl) rfl dX0_draw_138 ?_
    refine g_lmul X (v := ((if ((S 0 (plN C w)) / (10 : Int64)) < (wd C S w) then (S 0 (plN C w)) / (10 : Int64) else wd C S w) - v2) * (if (100 : Int64) < (deg S (plN C w)) then (100 : Int64) else deg S (plN C w))) dX0_draw_141 rfl ?_
    refine g_ladd X (v := (X7 3 1) + (((if ((S 0 (plN C w)) / (10 : Int64)) < (wd C S w) then (S 0 (plN C w)) / (10 : Int64) else wd C S w) - v2) * (if (100 : Int64) < (deg S (plN C w)) then (100 : Int64) else deg S (plN C w)))) dX0_draw_142 rfl ?_
    obtain ⟨X8, eX8⟩ : ∃ z : St, z = u2 X7 3 1 ((X7 3 1) + (((if ((S 0 (plN C w)) / (10 : Int64)) < (wd C S w) then (S 0 (plN C w)) / (10 : Int64) else wd C S w) - v2) * (if (100 : Int64) < (deg S (plN C w)) then (100 : Int64) else deg S (plN C w)))) := ⟨_, rfl⟩
    refine g_put X (C := RX0) (T := TX0) (N := 11) (ws' := wF f cI cJ cZ C N S6 Qk X8) inlX0 tyX0 tyX0_ok nmX0 0 rfl rfl 9 (Nat.le_of_ble_eq_true rfl) kF_X0_61 rfl rfl rfl (Nat.le_of_ble_eq_true rfl) dX0_draw_143 (by rw [eX8]; first | done | (rfl)) ?_
    refine g_aload_n X 1 dX0_draw_146 rfl rfl ?_
    refine g_get X (C := RX0) (T := TX0) (N := 11) (v := .ref (f 34)) inlX0 0 rfl rfl 7 (Nat.le_of_ble_eq_true rfl) kF_X0_53 rfl dX0_draw_147 ?_
    refine g_iconst X (v := nI 1) dX0_draw_150 (by decide +kernel) ?_
    refine g_dup2_11 X dX0_draw_151 rfl rfl ?_
    refine g_lald X 34 rfl (1) rfl (by omega) (Nat.le_of_ble_eq_true rfl) (v := S6 12 1) rfl dX0_draw_152 ?_
    refine g_lload X 0 dX0_draw_153 rfl ?_
    refine g_ladd X (v := (S6 12 1) + v2) dX0_draw_155 rfl ?_
    obtain ⟨S9, eS9⟩ : ∃ z : St, z = u2 S6 12 1 ((S6 12 1) + v2) := ⟨_, rfl⟩
    refine g_last X (ws' := wF f cI cJ cZ C N S9 Qk X8) 34 rfl (1) rfl (by omega) (Nat.le_of_ble_eq_true rfl) dX0_draw_156 (by rw [eS9]; first | done | (rfl)) ?_
    refine g_aload_n X 1 dX0_draw_157 rfl rfl ?_
    refine g_get X (C := RX0) (T := TX0) (N := 11) (v := .ref (f 34)) inlX0 0 rfl rfl 7 (Nat.le_of_ble_eq_true rfl) kF_X0_53 rfl dX0_draw_158 ?_
    refine g_bipush X (v := nI 6) dX0_draw_161 (by decide +kernel) ?_
    refine g_dup2_11 X dX0_draw_163 rfl rfl ?_
    refine g_lald X 34 rfl (6) rfl (by omega) (Nat.le_of_ble_eq_true rfl) (v := S9 12 6) rfl dX0_draw_164 ?_
    refine g_lload X 0 dX0_draw_165 rfl ?_
    refine g_lload_n X 4 dX0_draw_167 rfl rfl ?_
    refine g_ldc2 X kL_X0_180 dX0_draw_168 ?_
    refine g_lsub X (v := (deg S (plN C w)) - (60 : Int64)) dX0_draw_171 rfl ?_
    refine g_lconst X (v := 0) dX0_draw_172 (by decide +kernel) ?_
    refine g_mmax_long X (v := if (0 : Int64) < ((deg S (plN C w)) - (60 : Int64)) then (deg S (plN C w)) - (60 : Int64) else (0 : Int64)) kT_max_long kM_X0_182 kZ_Math kC_max_long (Nat.le_of_ble_eq_true rfl) (Nat.le_of_ble_eq_true rfl) (Nat.le_of_ble_eq_true rfl) (Nat.le_of_ble_eq_true rfl) rfl dX0_draw_173 ?_
    refine g_lmul X (v := v2 * (if (0 : Int64) < ((deg S (plN C w)) - (60 : Int64)) then (deg S (plN C w)) - (60 : Int64) else (0 : Int64))) dX0_draw_176 rfl ?_
    refine g_ldc2 X kL_X0_158 dX0_draw_177 ?_
    refine g_ldiv X (v := (v2 * (if (0 : Int64) < ((deg S (plN C w)) - (60 : Int64)) then (deg S (plN C w)) - (60 : Int64) else (0 : Int64))) / (10 : Int64)) dX0_draw_180 (by decide +kernel) rfl ?_
    refine g_ladd X (v := (S9 12 6) + ((v2 * (if (0 : Int64) < ((deg S (plN C w)) - (60 : Int64)) then (deg S (plN C w)) - (60 : Int64) else (0 : Int64))) / (10 : Int64))) dX0_draw_181 rfl ?_
    obtain ⟨S10, eS10⟩ : ∃ z : St, z = u2 S9 12 6 ((S9 12 6) + ((v2 * (if (0 : Int64) < ((deg S (plN C w)) - (60 : Int64)) then (deg S (plN C w)) - (60 : Int64) else (0 : Int64))) / (10 : Int64))) := ⟨_, rfl⟩
    refine g_last X (ws' := wF f cI cJ cZ C N S10 Qk X8) 34 rfl (6) rfl (by omega) (Nat.le_of_ble_eq_true rfl) dX0_draw_182 (by rw [eS10]; first | done | (rfl)) ?_
    refine g_aload_n X 1 dX0_draw_183 rfl rfl ?_
    refine g_get X (C := RX0) (T := TX0) (N := 11) (v := .ref (f 34)) inlX0 0 rfl rfl 7 (Nat.le_of_ble_eq_true rfl) kF_X0_53 rfl dX0_draw_184 ?_
    refine g_bipush X (v := nI 7) dX0_draw_187 (by decide +kernel) ?_
    refine g_dup2_11 X dX0_draw_189 rfl rfl ?_
    refine g_lald X 34 rfl (7) rfl (by omega) (Nat.le_of_ble_eq_true rfl) (v := S10 12 7) rfl dX0_draw_190 ?_
    refine g_lload X 5 dX0_draw_191 rfl ?_
    refine g_lload_n X 4 dX0_draw_193 rfl rfl ?_
    refine g_lmul X (v := (if ((S 0 (plN C w)) / (10 : Int64)) < (wd C S w) then (S 0 (plN C w)) / (10 : Int64) else wd C S w) * (deg S (plN C w))) dX0_draw_194 rfl ?_
    refine g_ladd X (v := (S10 12 7) + ((if ((S 0 (plN C w)) / (10 : Int64)) < (wd C S w) then (S 0 (plN C w)) / (10 : Int64) else wd C S w) * (deg S (plN C w)))) dX0_draw_195 rfl ?_
    obtain ⟨S11, eS11⟩ : ∃ z : St, z = u2 S10 12 7 ((S10 12 7) + ((if ((S 0 (plN C w)) / (10 : Int64)) < (wd C S w) then (S 0 (plN C w)) / (10 : Int64) else wd C S w) * (deg S (plN C w)))) := ⟨_, rfl⟩
    refine g_last X (ws' := wF f cI cJ cZ C N S11 Qk X8) 34 rfl (7) rfl (by omega) (Nat.le_of_ble_eq_true rfl) dX0_draw_196 (by rw [eS11]; first | done | (rfl)) ?_
    refine g_lload_n X 4 dX0_draw_197 rfl rfl ?_
    refine g_ldc2 X kL_X0_185 dX0_draw_198 ?_
    have J16 : ∀ (S15 : St), S15 = (if (deg S (plN C w)) ≤ (160 : Int64) then S11 else if (if ((S 0 (plN C w)) / (10 : Int64)) < (wd C S w) then (S 0 (plN C w)) / (10 : Int64) else wd C S w) ≤ (0 : Int64) then S11 else (growS S11 w (if ((S 0 (plN C w)) / (10 : Int64)) < (wd C S w) then (S 0 (plN C w)) / (10 : Int64) else wd C S w))) → g_G p l e rm_X0_draw s m args below meth c D A 9 0 0 Q (wF f cI cJ cZ C N S15 Qk X8) [(0, .ref (f 0)), (1, .int (nI w)), (2, .int (nI (plN C w))), (5, .long (if ((S 0 (plN C w)) / (10 : Int64)) < (wd C S w) then (S 0 (plN C w)) / (10 : Int64) else wd C S w))] 222 [] := by
      intro S15 eS15
      refine g_aload_n X 0 dX0_draw_222 rfl rfl ?_
      refine g_get X (C := RX0) (T := TX0) (N := 11) (v := .ref (f 23)) inlX0 0 rfl rfl 5 (Nat.le_of_ble_eq_true rfl) kF_X0_42 rfl dX0_draw_223 ?_
      refine g_iload_n X 1 dX0_draw_226 rfl rfl ?_
      refine g_iload_n X 2 dX0_draw_227 rfl rfl ?_
      refine g_lload X 3 dX0_draw_228 rfl ?_
      obtain ⟨S17, eS17⟩ : ∃ z : St, z = itr (chgS C (plN C w) w (if ((S 0 (plN C w)) / (10 : Int64)) < (wd C S w) then (S 0 (plN C w)) / (10 : Int64) else wd C S w)) S15 (N 2) := ⟨_, rfl⟩
      refine g_callV X (As := [.int (nI w), .int (nI (plN C w)), .long (if ((S 0 (plN C w)) / (10 : Int64)) < (wd C S w) then (S 0 (plN C w)) / (10 : Int64) else wd C S w)]) (rest := []) (m_X3_charge l D cI cJ cZ (fun i => f (23 + i)) C N S15 w (plN C w) (if ((S 0 (plN C w)) / (10 : Int64)) < (wd C S w) then (S 0 (plN C w)) / (10 : Int64) else wd C S w) (by omega) hpl hN2 (fun k hk => hC.sp hk)) kM_X0_191 kI_yX3_charge kS_yX3_charge kZ_RX3 kC_yX3_charge hV_X3_charge rfl rfl rfl 0 rfl (ci := 3) rfl ⟨Nat.le_of_ble_eq_true rfl, Nat.le_of_ble_eq_true rfl⟩ ⟨Nat.le_of_ble_eq_true rfl, Nat.le_of_ble_eq_true rfl⟩ (Nat.le_of_ble_eq_true rfl) dX0_draw_230 rfl (em_I 23 7 30 0) (em_C (by decide) (Nat.le_of_ble_eq_true rfl) rfl) (em_nd (by decide)) (g_kk1 (w2 := wF f cI cJ cZ C N S17 Qk X8) (by rw [eS17]; exact (em3 23 7 30 0 (by decide) (Nat.le_of_ble_eq_true rfl) rfl rfl (by rw [wF_s (S' := itr (chgS C (plN C w) w (if ((S 0 (plN C w)) / (10 : Int64)) < (wd C S w) then (S 0 (plN C w)) / (10 : Int64) else wd C S w)) S15 (N 2)) (S := S15) (fun c h => chg_oth _ _ _ _ _ (by omega) _)]; rfl))) ?_)
      refine g_vret X hr hlk hQ dX0_draw_233 ?_
      show g_eq _ _ _ _
      try rw [eS17]
      try rw [eS15]
      try rw [eS11]
      try rw [eS10]
      try rw [eS9]
      try rw [eX8]
      try rw [eX7]
      try rw [eS6]
      try rw [eS5]
      try rw [eS4]
      try rw [ev2]
      exact ⟨rfl, rfl⟩
    refine g_lj_le X (tgt := 222) (pc1 := 202) dX0_draw_201 rfl dX0_draw_202 (by decide) (fun h12 => ?_) (fun h12 => ?_)
    · --
      refine g_lv _ [1, 2, 3, 5] rfl ?_
      exact J16 _ (by rw [if_pos (c := (deg S (plN C w)) ≤ (160 : Int64)) h12])
    · --
      refine g_lload X 5 dX0_draw_205 rfl ?_
      refine g_lconst X (v := 0) dX0_draw_207 (by decide +kernel) ?_
      refine g_lj_le X (tgt := 222) (pc1 := 209) dX0_draw_208 rfl dX0_draw_209 (by decide) (fun h13 => ?_) (fun h13 => ?_)
      · --
        refine g_lv _ [1, 2, 3, 5] rfl ?_
        exact J16 _ (by rw [if_neg (c := (deg S (plN C w)) ≤ (160 : Int64)) h12, if_pos (c := (if ((S 0 (plN C w)) / (10 : Int64)) < (wd C S w) then (S 0 (plN C w)) / (10 : Int64) else wd C S w) ≤ (0 : Int64)) h13])
      · --
        refine g_aload_n X 1 dX0_draw_212 rfl rfl ?_
        refine g_get X (C := RX0) (T := TX0) (N := 11) (v := .ref (f 11)) inlX0 0 rfl rfl 3 (Nat.le_of_ble_eq_true rfl) kF_X0_28 rfl dX0_draw_213 ?_
        refine g_iload_n X 2 dX0_draw_216 rfl rfl ?_
        refine g_lload X 5 dX0_draw_217 rfl ?_
        obtain ⟨S14, eS14⟩ : ∃ z : St, z = growS S11 w (if ((S 0 (plN C w)) / (10 : Int64)) < (wd C S w) then (S 0 (plN C w)) / (10 : Int64) else wd C S w) := ⟨_, rfl⟩
        refine g_callV X (As := [.int (nI w), .long (if ((S 0 (plN C w)) / (10 : Int64)) < (wd C S w) then (S 0 (plN C w)) / (10 : Int64) else wd C S w)]) (rest := []) (m_X5_growScale l D cI cJ cZ (fun i => f (11 + i)) C N S11 w (if ((S 0 (plN C w)) / (10 : Int64)) < (wd C S w) then (S 0 (plN C w)) / (10 : Int64) else wd C S w) (by omega) (by (try rw [eS11]); (try rw [eS10]); (try rw [eS9]); (try rw [eX8]); (try rw [eX7]); (try rw [eS6]); (try rw [eS5]); (try rw [eS4]); (try rw [ev2]); refine scok_c (S := S) ?_ (hE.1 w hw); rw [u2_c _ _ _ (by decide), u2_c _ _ _ (by decide), u2_c _ _ _ (by decide), findS_oth _ _ _ (by decide) (by decide)]; rfl)) kM_X0_187 kI_yX5_growScale kS_yX5_growScale kZ_RX5 kC_yX5_growScale hV_X5_growScale rfl rfl rfl 0 rfl (ci := 5) rfl ⟨Nat.le_of_ble_eq_true rfl, Nat.le_of_ble_eq_true rfl⟩ ⟨Nat.le_of_ble_eq_true rfl, Nat.le_of_ble_eq_true rfl⟩ (Nat.le_of_ble_eq_true rfl) dX0_draw_219 rfl (em_I 11 9 20 0) (em_C (by decide) (Nat.le_of_ble_eq_true rfl) rfl) (em_nd (by decide)) (g_kk1 (w2 := wF f cI cJ cZ C N S14 Qk X8) (by rw [eS14]; exact (em3 11 9 20 0 (by decide) (Nat.le_of_ble_eq_true rfl) rfl rfl rfl)) ?_)
        refine g_lv _ [1, 2, 3, 5] rfl ?_
        exact J16 _ (by (try rw [eS14]); rw [if_neg (c := (deg S (plN C w)) ≤ (160 : Int64)) h12, if_neg (c := (if ((S 0 (plN C w)) / (10 : Int64)) < (wd C S w) then (S 0 (plN C w)) / (10 : Int64) else wd C S w) ≤ (0 : Int64)) h13])
  refine g_lj_le X (tgt := 74) (pc1 := 50) dX0_draw_49 rfl dX0_draw_50 (by decide) (fun h1 => ?_) (fun h1 => ?_)
  · --
    refine g_lconst X (v := 0) dX0_draw_74 (by decide +kernel) ?_
    refine g_lv _ [3, 4, 2, 1, 0] rfl ?_
    exact J3 _ (by rw [if_pos (c := (deg S (plN C w)) ≤ (100 : Int64)) h1])
  · --
    refine g_lload X 0 dX0_draw_53 rfl ?_
    refine g_lload_n X 1 dX0_draw_55 rfl rfl ?_
    refine g_ldc2 X kL_X0_166 dX0_draw_56 ?_
    refine g_lsub X (v := (deg S (plN C w)) - (100 : Int64)) dX0_draw_59 rfl ?_
    refine g_ldc2 X kL_X0_168 dX0_draw_60 ?_
    refine g_mmin_long X (v := if (200 : Int64) < ((deg S (plN C w)) - (100 : Int64)) then (200 : Int64) else (deg S (plN C w)) - (100 : Int64)) kT_min_long kM_X0_160 kZ_Math kC_min_long (Nat.le_of_ble_eq_true rfl) (Nat.le_of_ble_eq_true rfl) (Nat.le_of_ble_eq_true rfl) (Nat.le_of_ble_eq_true rfl) rfl dX0_draw_63 ?_
    refine g_lmul X (v := (if ((S 0 (plN C w)) / (10 : Int64)) < (wd C S w) then (S 0 (plN C w)) / (10 : Int64) else wd C S w) * (if (200 : Int64) < ((deg S (plN C w)) - (100 : Int64)) then (200 : Int64) else (deg S (plN C w)) - (100 : Int64))) dX0_draw_66 rfl ?_
    refine g_ldc2 X kL_X0_170 dX0_draw_67 ?_
    refine g_ldiv X (v := ((if ((S 0 (plN C w)) / (10 : Int64)) < (wd C S w) then (S 0 (plN C w)) / (10 : Int64) else wd C S w) * (if (200 : Int64) < ((deg S (plN C w)) - (100 : Int64)) then (200 : Int64) else (deg S (plN C w)) - (100 : Int64))) / (400 : Int64)) dX0_draw_70 (by decide +kernel) rfl ?_
    refine g_goto X (tgt := 75) dX0_draw_71 (by decide) ?_
    refine g_lv _ [3, 4, 2, 1, 0] rfl ?_
    exact J3 _ (by rw [if_neg (c := (deg S (plN C w)) ≤ (100 : Int64)) h1])
