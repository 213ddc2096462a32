/-! the class's calls, told by natural numbers -/
theorem nN_I {n : Nat} (h : n < 2147483648) : nN (nI n) = n := nI_cl h
theorem inB_g {a n k : Nat} (h1 : a ≤ n) (h2 : n ≤ k) (hk : k < 2147483648) : inB (nI n) (nI a) (nI k) = true := by
  refine inB_iff.mpr ⟨fun z => ?_, fun z => ?_⟩
  · rw [Int32.lt_iff_toInt_lt, nI_toInt (by omega), nI_toInt (by omega)] at z
    omega
  · rw [Int32.lt_iff_toInt_lt, nI_toInt (by omega), nI_toInt (by omega)] at z
    omega
theorem inB_l {n k : Nat} (h : n < k) (hk : k < 2147483648) : inB (nI n) (nI 0) (nI k - nI 1) = true := by
  rw [pk_sub (by omega)]
  exact inB_g (Nat.zero_le _) (by omega) (by omega)

theorem c_ofBlock (l : Launch) (D : va_G) (cI cJ cZ : ClassId) (x : Nat → Nat) (y : Nat) (C : Cf) (N : Nat → Nat) (S : St) (Qk : Nat → Int64) (Z : St) (b k : Nat) (hb : b < 12) (hk : k < 6) (hW : Wok S) : g_Ct l D cI cJ cZ yX6_ofBlock cX6_ofBlock 3 (some .long) rm_X6_ofBlock 0 0 [.ref (x 0), .int (nI b), .int (nI k)] (wX x y cI cJ cZ C N S Qk Z) (g_eq (some (.long (tellG S b k))) (wX x y cI cJ cZ C N S Qk Z)) := by
  have h := m_X6_ofBlock l D cI cJ cZ x y C N S Qk Z (nI b) (nI k) hW (by unfold cB2; rw [if_pos (inB_g (Nat.zero_le _) (by omega) (by decide)), if_pos (inB_g (Nat.zero_le _) (by omega) (by decide))])
  rw [nN_I (n := b) (by omega)] at h
  rw [nN_I (n := k) (by omega)] at h
  exact h
theorem c_ofWell (l : Launch) (D : va_G) (cI cJ cZ : ClassId) (x : Nat → Nat) (y : Nat) (C : Cf) (N : Nat → Nat) (S : St) (Qk : Nat → Int64) (Z : St) (n k : Nat) (hn : n < N 0) (hk : k < 7) (hC : Cok C N) : g_Ct l D cI cJ cZ yX6_ofWell cX6_ofWell 3 (some .long) rm_X6_ofWell 0 0 [.ref (x 0), .int (nI n), .int (nI k)] (wX x y cI cJ cZ C N S Qk Z) (g_eq (some (.long (tellW C S n k))) (wX x y cI cJ cZ C N S Qk Z)) := by
  have h := m_X6_ofWell l D cI cJ cZ x y C N S Qk Z (nI n) (nI k) hC (by have h0 := hC.n0; unfold cI2; rw [if_pos (inB_l hn (by omega)), if_pos (inB_g (Nat.zero_le _) (by omega) (by decide))])
  have h00 := hC.n0
  have h01 := hC.n1
  have h02 := hC.n2
  rw [nN_I (n := k) (by omega)] at h
  rw [nN_I (n := n) (by omega)] at h
  exact h
theorem c_ofSpring (l : Launch) (D : va_G) (cI cJ cZ : ClassId) (x : Nat → Nat) (y : Nat) (C : Cf) (N : Nat → Nat) (S : St) (Qk : Nat → Int64) (Z : St) (n k : Nat) (hn : n < N 2) (hk : k < 5) (hC : Cok C N) : g_Ct l D cI cJ cZ yX6_ofSpring cX6_ofSpring 3 (some .long) rm_X6_ofSpring 0 0 [.ref (x 0), .int (nI n), .int (nI k)] (wX x y cI cJ cZ C N S Qk Z) (g_eq (some (.long (tellS C S n k))) (wX x y cI cJ cZ C N S Qk Z)) := by
  have h := m_X6_ofSpring l D cI cJ cZ x y C N S Qk Z (nI n) (nI k) hC (by have h0 := hC.n2; unfold cI2; rw [if_pos (inB_l hn (by omega)), if_pos (inB_g (Nat.zero_le _) (by omega) (by decide))])
  have h00 := hC.n0
  have h01 := hC.n1
  have h02 := hC.n2
  rw [nN_I (n := k) (by omega)] at h
  rw [nN_I (n := n) (by omega)] at h
  exact h
theorem c_quake (l : Launch) (D : va_G) (cI cJ cZ : ClassId) (x : Nat → Nat) (y : Nat) (C : Cf) (N : Nat → Nat) (S : St) (Qk : Nat → Int64) (Z : St) (n k : Nat) (hn : n < kpM S) (hk : k < 3) (hq : S 14 0 = lN (qN S) ∧ qN S ≤ 900000) : g_Ct l D cI cJ cZ yX6_quake cX6_quake 3 (some .int) rm_X6_quake 0 0 [.ref (x 0), .int (nI n), .int (nI k)] (wX x y cI cJ cZ C N S Qk Z) (g_eq (some (.int (tellQ Qk n k))) (wX x y cI cJ cZ C N S Qk Z)) := by
  have h := m_X6_quake l D cI cJ cZ x y C N S Qk Z (nI n) (nI k) hq (by have h0 := kp_m hq; unfold cI2; rw [if_pos (inB_l hn (by omega)), if_pos (inB_g (Nat.zero_le _) (by omega) (by decide))])
  have h00 := kp_m hq
  rw [nN_I (n := k) (by omega)] at h
  rw [nN_I (n := n) (by omega)] at h
  exact h
theorem c_count (l : Launch) (D : va_G) (cI cJ cZ : ClassId) (x : Nat → Nat) (y : Nat) (C : Cf) (N : Nat → Nat) (S : St) (Qk : Nat → Int64) (Z : St) (k : Nat) (hk : k < 5) : g_Ct l D cI cJ cZ yX6_count cX6_count 2 (some .int) rm_X6_count 0 0 [.ref (x 0), .int (nI k)] (wX x y cI cJ cZ C N S Qk Z) (g_eq (some (.int (cnM N S (nI k)))) (wX x y cI cJ cZ C N S Qk Z)) := by
  have h := m_X6_count l D cI cJ cZ x y C N S Qk Z (nI k)  (by unfold cR1; rw [if_neg (by rw [inB_g (Nat.zero_le _) (by omega) (by decide)]; decide)])
  exact h
theorem c_sum (l : Launch) (D : va_G) (cI cJ cZ : ClassId) (x : Nat → Nat) (y : Nat) (C : Cf) (N : Nat → Nat) (S : St) (Qk : Nat → Int64) (Z : St) (k : Nat) (hk : k < 8) : g_Ct l D cI cJ cZ yX6_sum cX6_sum 2 (some .long) rm_X6_sum 0 0 [.ref (x 0), .int (nI k)] (wX x y cI cJ cZ C N S Qk Z) (g_eq (some (.long (smM S (nI k)))) (wX x y cI cJ cZ C N S Qk Z)) := by
  have h := m_X6_sum l D cI cJ cZ x y C N S Qk Z (nI k)  (by unfold cR1; rw [if_neg (by rw [inB_g (Nat.zero_le _) (by omega) (by decide)]; decide)])
  exact h
theorem c_block (l : Launch) (D : va_G) (cI cJ cZ : ClassId) (x : Nat → Nat) (y : Nat) (C : Cf) (N : Nat → Nat) (S : St) (Qk : Nat → Int64) (Z : St) (b w d : Nat) (hb : b < 12) (hw : w ≤ 50000) (hd : d ≤ 350) (h13 : S 13 0 = 0) : g_Ct l D cI cJ cZ yX6_block cX6_block 5 (some .int) rm_X6_block 0 0 [.ref (x 0), .int (nI b), .int (nI w), .int (nI d)] (wX x y cI cJ cZ C N S Qk Z) (g_eq (some (.int ((S 0 b).toInt32))) (wX x y cI cJ cZ C N (u2 (u2 S 0 b (nI w).toInt64) 1 b ((nI d).toInt64 * ((nI w) + nI 20000).toInt64)) Qk Z)) := by
  have h := m_X6_block l D cI cJ cZ x y C N S Qk Z (nI b) (nI w) (nI d) (by rw [h13]; decide) (by unfold cB3; rw [if_pos (inB_g (Nat.zero_le _) (by omega) (by decide)), if_neg (by rw [inB_g (Nat.zero_le _) hw (by decide)]; decide), if_pos (inB_g (Nat.zero_le _) hd (by decide)), if_pos (by rw [h13]; exact Int64.le_refl 0)])
  rw [nN_I (n := b) (by omega)] at h
  exact h
theorem c_crack (l : Launch) (D : va_G) (cI cJ cZ : ClassId) (x : Nat → Nat) (y : Nat) (C : Cf) (N : Nat → Nat) (S : St) (Qk : Nat → Int64) (Z : St) (b o w : Nat) (hb : b < 12) (ho : o < 12) (hw : w ≤ 100) (hn : nbr b o = true) : g_Ct l D cI cJ cZ yX6_crack cX6_crack 4 (some .int) rm_X6_crack 0 0 [.ref (x 0), .int (nI b), .int (nI o), .int (nI w)] (wX x y cI cJ cZ C N S Qk Z) (g_eq (some (.int (swR C b o))) (wX x y cI cJ cZ (swC C b o (nI w)) N S Qk Z)) := by
  have h := m_X6_crack l D cI cJ cZ x y C N S Qk Z (nI b) (nI o) (nI w)  (by unfold cK3; rw [if_neg (by rw [inB_g (Nat.zero_le _) (by omega) (by decide)]; decide), if_pos (inB_g (Nat.zero_le _) (by omega) (by decide)), nN_I (by omega), nN_I (by omega), if_neg (by rw [hn]; decide), if_pos (inB_g (Nat.zero_le _) hw (by decide))])
  rw [nN_I (n := b) (by omega)] at h
  rw [nN_I (n := o) (by omega)] at h
  exact h
theorem c_rain (l : Launch) (D : va_G) (cI cJ cZ : ClassId) (x : Nat → Nat) (y : Nat) (C : Cf) (N : Nat → Nat) (S : St) (Qk : Nat → Int64) (Z : St) (k : Nat) (hk : k ≤ 500) : g_Ct l D cI cJ cZ yX6_rain cX6_rain 3 (some .int) rm_X6_rain 0 0 [.ref (x 0), .int (nI k)] (wX x y cI cJ cZ C N S Qk Z) (g_eq (some (.int (C 10 0))) (wX x y cI cJ cZ (c2 C 10 0 (nI k)) N S Qk Z)) := by
  have h := m_X6_rain l D cI cJ cZ x y C N S Qk Z (nI k)  (by unfold cR1; rw [if_neg (by rw [inB_g (Nat.zero_le _) hk (by decide)]; decide)])
  exact h
theorem c_well (l : Launch) (D : va_G) (cI cJ cZ : ClassId) (x : Nat → Nat) (y : Nat) (C : Cf) (N : Nat → Nat) (S : St) (Qk : Nat → Int64) (Z : St) (b : Nat) (r : Bool) (hb : b < 12) (hn : N 0 < 10) (hC : Cok C N) : g_Ct l D cI cJ cZ yX6_well cX6_well 3 (some .int) rm_X6_well 0 0 [.ref (x 0), .int (nI b), .int (bI (r))] (wX x y cI cJ cZ C N S Qk Z) (g_eq (some (.int (nI (N 0)))) (wX x y cI cJ cZ (c2 (c2 C 2 (N 0) (nI b)) 3 (N 0) (bI r)) (n2 N 0 (N 0 + 1)) (u2 S 8 (N 0) (-1)) Qk Z)) := by
  have h := m_X6_well l D cI cJ cZ x y C N S Qk Z (nI b) r hC (by unfold cL1; rw [if_pos (inB_g (Nat.zero_le _) (by omega) (by decide)), if_pos (by omega)])
  have h00 := hC.n0
  have h01 := hC.n1
  have h02 := hC.n2
  exact h
theorem c_open (l : Launch) (D : va_G) (cI cJ cZ : ClassId) (x : Nat → Nat) (y : Nat) (C : Cf) (N : Nat → Nat) (S : St) (Qk : Nat → Int64) (Z : St) (n k : Nat) (hn : n < N 0) (hk : C 3 n = 0 → k ≤ 1000) (hk2 : ¬ C 3 n = 0 → k ≤ 10) (hC : Cok C N) : g_Ct l D cI cJ cZ yX6_open cX6_open 4 (some .int) rm_X6_open 0 0 [.ref (x 0), .int (nI n), .int (nI k)] (wX x y cI cJ cZ C N S Qk Z) (g_eq (some (.int (C 4 n))) (wX x y cI cJ cZ (c2 C 4 n (nI k)) N S Qk Z)) := by
  have h := m_X6_open l D cI cJ cZ x y C N S Qk Z (nI n) (nI k) hC (by have h0 := hC.n0; unfold cO2; rw [if_pos (inB_l hn (by omega)), nN_I (by omega)]; rcases Decidable.em (C 3 n = 0) with h | h; exact (if_pos h).trans (if_pos (inB_g (Nat.zero_le _) (hk h) (by decide))); exact (if_neg h).trans (if_pos (inB_g (Nat.zero_le _) (hk2 h) (by decide))))
  have h00 := hC.n0
  have h01 := hC.n1
  have h02 := hC.n2
  rw [nN_I (n := n) (by omega)] at h
  exact h
theorem c_clean (l : Launch) (D : va_G) (cI cJ cZ : ClassId) (x : Nat → Nat) (y : Nat) (C : Cf) (N : Nat → Nat) (S : St) (Qk : Nat → Int64) (Z : St) (n : Nat) (hn : n < N 0) (h3 : C 3 n = 0) (hC : Cok C N) : g_Ct l D cI cJ cZ yX6_clean cX6_clean 3 (some .int) rm_X6_clean 0 0 [.ref (x 0), .int (nI n)] (wX x y cI cJ cZ C N S Qk Z) (g_eq (some (.int ((S 4 n).toInt32))) (wX x y cI cJ cZ C N (u2 S 4 n 0) Qk Z)) := by
  have h := m_X6_clean l D cI cJ cZ x y C N S Qk Z (nI n) hC (by have h0 := hC.n0; unfold cW1; rw [if_pos (inB_l hn (by omega)), nN_I (by omega), if_pos h3])
  have h00 := hC.n0
  have h01 := hC.n1
  have h02 := hC.n2
  rw [nN_I (n := n) (by omega)] at h
  exact h
theorem c_use (l : Launch) (D : va_G) (cI cJ cZ : ClassId) (x : Nat → Nat) (y : Nat) (C : Cf) (N : Nat → Nat) (S : St) (Qk : Nat → Int64) (Z : St) (a d : Nat) (ha : a ≤ 100) (hd0 : 1 ≤ d) (hd : d ≤ 50) (hn : N 1 < 6) (hC : Cok C N) : g_Ct l D cI cJ cZ yX6_use cX6_use 3 (some .int) rm_X6_use 0 0 [.ref (x 0), .int (nI a), .int (nI d)] (wX x y cI cJ cZ C N S Qk Z) (g_eq (some (.int (nI (N 1)))) (wX x y cI cJ cZ (c2 (c2 C 5 (N 1) (nI a)) 6 (N 1) (nI d)) (n2 N 1 (N 1 + 1)) S Qk Z)) := by
  have h := m_X6_use l D cI cJ cZ x y C N S Qk Z (nI a) (nI d) hC (by unfold cU2; rw [if_neg (by rw [inB_g (Nat.zero_le _) ha (by decide)]; decide), if_pos (inB_g hd0 hd (by decide)), if_pos (by omega)])
  have h00 := hC.n0
  have h01 := hC.n1
  have h02 := hC.n2
  exact h
theorem c_spring (l : Launch) (D : va_G) (cI cJ cZ : ClassId) (x : Nat → Nat) (y : Nat) (C : Cf) (N : Nat → Nat) (S : St) (Qk : Nat → Int64) (Z : St) (b a d : Nat) (hb : b < 12) (ha : a ≤ 50000) (hd : d ≤ 50000) (hn : N 2 < 4) (hC : Cok C N) : g_Ct l D cI cJ cZ yX6_spring cX6_spring 4 (some .int) rm_X6_spring 0 0 [.ref (x 0), .int (nI b), .int (nI a), .int (nI d)] (wX x y cI cJ cZ C N S Qk Z) (g_eq (some (.int (nI (N 2)))) (wX x y cI cJ cZ (c2 (c2 (c2 C 7 (N 2) (nI b)) 8 (N 2) (nI a)) 9 (N 2) (nI d)) (n2 N 2 (N 2 + 1)) S Qk Z)) := by
  have h := m_X6_spring l D cI cJ cZ x y C N S Qk Z (nI b) (nI a) (nI d) hC (by unfold cS3; rw [if_pos (inB_g (Nat.zero_le _) (by omega) (by decide)), if_neg (by rw [inB_g (Nat.zero_le _) ha (by decide)]; decide), if_pos (inB_g (Nat.zero_le _) hd (by decide)), if_pos (by omega)])
  have h00 := hC.n0
  have h01 := hC.n1
  have h02 := hC.n2
  exact h
theorem c_promise (l : Launch) (D : va_G) (cI cJ cZ : ClassId) (x : Nat → Nat) (y : Nat) (C : Cf) (N : Nat → Nat) (S : St) (Qk : Nat → Int64) (Z : St) (n k : Nat) (hn : n < N 2) (hk : k ≤ 50000) (hC : Cok C N) : g_Ct l D cI cJ cZ yX6_promise cX6_promise 4 (some .int) rm_X6_promise 0 0 [.ref (x 0), .int (nI n), .int (nI k)] (wX x y cI cJ cZ C N S Qk Z) (g_eq (some (.int (C 9 n))) (wX x y cI cJ cZ (c2 C 9 n (nI k)) N S Qk Z)) := by
  have h := m_X6_promise l D cI cJ cZ x y C N S Qk Z (nI n) (nI k) hC (by have h0 := hC.n2; unfold cI2; rw [if_pos (inB_l hn (by omega)), if_pos (inB_g (Nat.zero_le _) hk (by decide))])
  have h00 := hC.n0
  have h01 := hC.n1
  have h02 := hC.n2
  rw [nN_I (n := n) (by omega)] at h
  exact h
theorem c_tracer (l : Launch) (D : va_G) (cI cJ cZ : ClassId) (x : Nat → Nat) (y : Nat) (C : Cf) (N : Nat → Nat) (S : St) (Qk : Nat → Int64) (Z : St) (b k : Nat) (hb : b < 12) (hk0 : 1 ≤ k) (hk : k ≤ 100000) (h0 : ¬ S 0 b = 0) (hW : Wok S) : g_Ct l D cI cJ cZ yX6_tracer cX6_tracer 3 (some .long) rm_X6_tracer 0 0 [.ref (x 0), .int (nI b), .int (nI k)] (wX x y cI cJ cZ C N S Qk Z) (g_eq (some (.long (S 2 b + (nI k).toInt64))) (wX x y cI cJ cZ C N (u2 S 2 b (S 2 b + (nI k).toInt64)) Qk Z)) := by
  have h := m_X6_tracer l D cI cJ cZ x y C N S Qk Z (nI b) (nI k) hW (by unfold cT2; rw [if_pos (inB_g (Nat.zero_le _) (by omega) (by decide)), if_pos (inB_g hk0 hk (by decide)), nN_I (by omega), if_pos h0])
  rw [nN_I (n := b) (by omega)] at h
  exact h
theorem c_pass (l : Launch) (D : va_G) (cI cJ cZ : ClassId) (x : Nat → Nat) (y : Nat) (C : Cf) (N : Nat → Nat) (S : St) (Qk : Nat → Int64) (Z : St) (k : Nat) (hk0 : 1 ≤ k) (hk : k ≤ 24) (hp : S 13 0 + (nI k).toInt64 ≤ 600) (hC : Cok C N) (hR : Rok C) (hX : Xok C) (hI : ∀ i, i ≤ 24 → MonOk C N (mnS C N S i)) (hM : 0 ≤ (S 13 0).toInt ∧ (S 13 0).toInt ≤ 1000) : g_Ct l D cI cJ cZ yX6_pass cX6_pass 3 (some .int) rm_X6_pass 0 0 [.ref (x 0), .int (nI k)] (wX x y cI cJ cZ C N S Qk Z) (g_eq (some (.int ((mnS C N S k 13 0).toInt32))) (wX x y cI cJ cZ C N (mnS C N S k) (mnQ C N S Qk k) (mnZ C N S Z k))) := by
  have h := m_X6_pass l D cI cJ cZ x y C N S Qk Z (nI k) hC hR hX hI hM (by unfold cP2; rw [if_pos (inB_g hk0 hk (by decide)), if_pos hp])
  have h00 := hC.n0
  have h01 := hC.n1
  have h02 := hC.n2
  rw [nN_I (n := k) (by omega)] at h
  exact h
theorem c_would (l : Launch) (D : va_G) (cI cJ cZ : ClassId) (x : Nat → Nat) (C : Cf) (N : Nat → Nat) (S : St) (Qk : Nat → Int64) (Z : St) (jC : Cf) (jN : Nat → Nat) (jS : St) (jQ : Nat → Int64) (jZ : St) (k b w : Nat) (hk : k ≤ 24) (hb : b < 12) (hw : w < 6) (hC : Cok C N) (hR : Rok C) (hX : Xok C) (hI : ∀ i, i ≤ 24 → MonOk C N (mnS C N S i)) (h3 : ∀ w, w < N 0 → C 3 w = 0 ∨ C 3 w = 1) (hZ : ZB jC jN jS) (hY : ZB C N S) (hn0 : jN 0 ≤ N 0) (hn1 : jN 1 ≤ N 1) (hn2 : jN 2 ≤ N 2) : g_Ct l D cI cJ cZ yX6_would cX6_would 5 (some .long) rm_X6_would 0 0 [.ref (x 0), .int (nI k), .int (nI b), .int (nI w)] (wX2 x cI cJ cZ C N S Qk Z jC jN jS jQ jZ) (g_eq (some (.long (tellG (mnS C N S k) b w))) (wX2 x cI cJ cZ C N S Qk Z C N (mnS C N S k) (mnQ C N S (cpQ Qk jQ (if 60 < qN S then 60 else qN S)) k) (mnZ C N S jZ k))) := by
  have h := m_X6_would l D cI cJ cZ x C N S Qk Z jC jN jS jQ jZ (nI k) (nI b) (nI w) hC hR hX hI h3 hZ hY hn0 hn1 hn2 (by unfold cD3; rw [if_pos (inB_g (Nat.zero_le _) (by omega) (by decide)), if_neg (by rw [inB_g (Nat.zero_le _) hk (by decide)]; decide), if_pos (inB_g (Nat.zero_le _) (by omega) (by decide))])
  have h00 := hC.n0
  have h01 := hC.n1
  have h02 := hC.n2
  rw [nN_I (n := b) (by omega)] at h
  rw [nN_I (n := k) (by omega)] at h
  rw [nN_I (n := w) (by omega)] at h
  exact h
