/-! the reference's month -/
def Bok (N : Nat → Nat) (S : St) : Prop := ∀ w, w < N 0 → S 6 w = 0 ∨ S 6 w = 1
theorem dw_if {α : Type} {C : Cf} {S : St} {w : Nat} (h : S 6 w = 0 ∨ S 6 w = 1) (x y : α) : (if ¬ C 3 w = 0 then x else if ¬ S 6 w = 0 then x else y) = if drw C S w = false then x else y := by
  unfold drw
  by_cases h1 : C 3 w = 0
  · rw [if_neg (not_not_intro h1), if_neg (c := ¬ C 3 w = 0) (not_not_intro h1)]
    rcases h with h | h <;> rw [h] <;> rfl
  · rw [if_pos h1, if_pos (c := ¬ C 3 w = 0) h1]
    rfl
theorem se_m (T : St) (s : Int64) (c : Prop) [Decidable c] (x : Int64) : (if c then u2 T 12 5 s else u2 (u2 T 12 5 s) 12 5 (u2 T 12 5 s 12 5 + x)) = u2 T 12 5 (if c then s else s + x) := by
  by_cases h : c
  · rw [if_pos h, if_pos h]
  · rw [if_neg h, if_neg h, u2_twice, u2_same]
theorem selP_z (C : Cf) (br bh s0 : Int64) (h : br ≤ 0) : ∀ n, selP C br bh s0 n = (0, s0)
  | 0 => by
    show (if br ≤ 0 then 0 else bh / br, s0) = _
    rw [if_pos h]
  | n + 1 => by rw [selP_s, if_pos h]; exact selP_z C br bh s0 h n
theorem bL_01 (b : Bool) : bL b = 0 ∨ bL b = 1 := by cases b <;> decide
theorem sh_6 (C : Cf) (N : Nat → Nat) (S : St) (n : Nat) : ∀ w, w < n → itr (shW C N) S n 6 w = 0 ∨ itr (shW C N) S n 6 w = 1 := by
  induction n with
  | zero => intro w hw; omega
  | succ n ih =>
    intro w hw
    have e : itr (shW C N) S (n + 1) 6 w = shW C N n (itr (shW C N) S n) 6 w := rfl
    rw [e]
    unfold shW
    rw [u2_ap]
    by_cases h : w = n
    · rw [if_pos ⟨rfl, h⟩]
      exact bL_01 _
    · rw [if_neg (fun z => h z.2), u2_c _ _ _ (by decide)]
      exact ih w (by omega)
theorem d6_ok (C : Cf) (N : Nat → Nat) (S : St) (hB : Bok N S) : ∀ n, n ≤ N 0 → Bok N (itr (dwS C N) (m1S C N S) n) := by
  intro n hn w hw
  rw [itr_c (fun n T => dw_c (by decide) (by decide) (by decide) (by decide) (by decide) (by decide) (by decide) (by decide) (by decide))]
  exact sh_6 C N _ (N 0) w hw
theorem rt_if {α : Type} {C : Cf} {S : St} {w : Nat} (h : S 6 w = 0 ∨ S 6 w = 1) (x y : α) : (if C 3 w = 0 then x else if ¬ S 6 w = 0 then x else y) = if ret_ C S w = false then x else y := by
  unfold ret_
  by_cases h1 : C 3 w = 0
  · rw [if_pos h1, if_pos (c := C 3 w = 0) h1]
    rfl
  · rw [if_neg h1, if_neg (c := C 3 w = 0) h1]
    rcases h with h | h <;> rw [h] <;> rfl
def r5 (S : St) (f : Nat → Int64) : St := fun c => if c = 5 then f else S c
theorem r5_c {S : St} {f : Nat → Int64} {c : Nat} (h : ¬ c = 5) : r5 S f c = S c := if_neg h
theorem r5_5 {S : St} {f : Nat → Int64} : r5 S f 5 = f := rfl
theorem r5_u {S : St} {f : Nat → Int64} {c i : Nat} {v : Int64} (h : ¬ c = 5) : u2 (r5 S f) c i v = r5 (u2 S c i v) f := by
  funext a j
  rw [u2_ap]
  by_cases h5 : a = 5
  · subst h5
    rw [if_neg (fun z => h z.1.symm), r5_5, r5_5]
  · rw [r5_c h5, r5_c h5, u2_ap]
theorem r5_u5 {S : St} {f : Nat → Int64} {i : Nat} {v : Int64} : r5 (u2 S 5 i v) f = r5 S f := by
  funext a
  by_cases h5 : a = 5
  · subst h5
    rfl
  · rw [r5_c h5, r5_c h5, u2_c _ _ _ h5]
theorem r5_eq {S : St} {f : Nat → Int64} (h : S 5 = f) : r5 S f = S := by
  funext a
  by_cases h5 : a = 5
  · subst h5
    exact h.symm
  · exact r5_c h5
theorem ptB_m {C : Cf} {S : St} {br W : Int64} {w : Nat} (h : S 6 w = 0 ∨ S 6 w = 1) : ptB C S br W w = if ret_ C S w = false then 0 else partV C S br w W := by
  rw [← rt_if h]
  unfold ptB ptA partV
  by_cases h1 : C 3 w = 0
  · rw [if_pos h1, if_pos h1, if_pos h1]
  · rw [if_neg h1, if_neg h1, if_neg h1]
    by_cases h2 : ¬ S 6 w = 0
    · rw [if_pos h2, if_pos h2]
      split <;> rfl
    · rw [if_neg h2, if_neg h2]
theorem ptP_at (C : Cf) (S : St) (br W : Int64) (P : Nat → Int64) : ∀ n j, j < n → itr (ptP C S br W) P n j = ptB C S br W j
  | 0, j, h => absurd h (by omega)
  | n + 1, j, h => by
    show vp_updL _ n _ j = _
    by_cases hj : j = n
    · subst hj
      exact if_pos rfl
    · have : vp_updL (vp_updL (itr (ptP C S br W) P n) n (ptA C S br W n)) n (ptB C S br W n) j = itr (ptP C S br W) P n j := (if_neg hj).trans (if_neg hj)
      rw [this]
      exact ptP_at C S br W P n j (by omega)
theorem rt_go {C : Cf} {T S0 : St} {P f : Nat → Int64} {br hot W : Int64} {n0 : Nat} (hB : ∀ w, w < n0 → T 6 w = 0 ∨ T 6 w = 1) (hM : ∀ w, w < n0 → ¬ C 3 w = 0 → T 5 w = 0) (hf : ∀ j, f j = if j < n0 ∧ ret_ C T j = true then partV C T br j W else T 5 j) (hP : ∀ w, w < n0 → P w = ptB C T br W w) (h6 : S0 6 = T 6) (h5 : S0 5 = T 5) : ∀ n, n ≤ n0 → itr (gb2 C hot) (r5 S0 f) n = r5 (itr (gbM C P hot) S0 n) f ∧ (∀ j, itr (gbM C P hot) S0 n 5 j = if j < n then f j else T 5 j)
  | 0, _ => ⟨rfl, fun j => by rw [if_neg (Nat.not_lt_zero _)]; exact congrFun h5 j⟩
  | n + 1, hn => by
    obtain ⟨ih1, ih2⟩ := rt_go hB hM hf hP h6 h5 n (by omega)
    have hR6 : ret_ C (r5 (itr (gbM C P hot) S0 n) f) n = ret_ C T n := by
      rw [← ih1]
      refine ret_congr ?_
      rw [itr_c (fun n T => gb2_c (by decide) (by decide) (by decide)), r5_c (by decide), h6]
    have hPn := hP n (by omega)
    rw [ptB_m (hB n (by omega))] at hPn
    have hfn := hf n
    have e1 : itr (gb2 C hot) (r5 S0 f) (n + 1) = gb2 C hot n (r5 (itr (gbM C P hot) S0 n) f) := by rw [← ih1]; rfl
    have e2 : itr (gbM C P hot) S0 (n + 1) = gbM C P hot n (itr (gbM C P hot) S0 n) := rfl
    rw [e1, e2]
    generalize itr (gbM C P hot) S0 n = R at ih2 hR6
    have row5 : ∀ v, v = f n → ∀ j, u2 R 5 n v 5 j = if j < n + 1 then f j else T 5 j := by
      intro v hv j
      rw [u2_ap]
      by_cases hj : j = n
      · subst hj
        rw [if_pos ⟨rfl, rfl⟩, if_pos (Nat.lt_succ_self _), hv]
      · rw [if_neg (fun z => hj z.2), ih2]
        by_cases hc : j < n
        · rw [if_pos hc, if_pos (by omega)]
        · rw [if_neg hc, if_neg (by omega)]
    unfold gb2 gbM
    rw [hR6]
    by_cases h1 : C 3 n = 0
    · have hr : ret_ C T n = false := by unfold ret_; exact if_pos h1
      rw [if_pos hr, if_pos h1]
      refine ⟨rfl, fun j => ?_⟩
      rw [hr, if_neg (fun z => by exact absurd z.2 (by decide))] at hfn
      rw [ih2]
      by_cases hj : j = n
      · subst hj
        rw [if_neg (Nat.lt_irrefl _), if_pos (Nat.lt_succ_self _), hfn]
      · by_cases hc : j < n
        · rw [if_pos hc, if_pos (by omega)]
        · rw [if_neg hc, if_neg (by omega)]
    · rw [if_neg h1]
      have hg5 : gc4 (plN C n) (P n) (gc3 (plN C n) (P n * hot) (gc2 (plN C n) (P n) (gc1 P n R))) 5 = u2 R 5 n (P n) 5 := by
        unfold gc4 gc3 gc2 gc1
        rw [u2_c _ _ _ (by decide), u2_c _ _ _ (by decide), u2_c _ _ _ (by decide)]
      by_cases hr : ret_ C T n = false
      · rw [if_pos hr]
        rw [hr, if_neg (fun z => by exact absurd z.2 (by decide)), hM n (by omega) h1] at hfn
        rw [if_pos hr] at hPn
        refine ⟨?_, fun j => ?_⟩
        · rw [hPn]
          unfold gc4 gc3 gc2 gc1
          rw [Int64.zero_mul, Int64.add_zero, u2_self, Int64.add_zero, u2_self, Int64.add_zero, u2_self, r5_u5]
        · rw [hg5]
          exact row5 _ (by rw [hPn, hfn]) j
      · have hr2 : ret_ C T n = true := by simpa using hr
        rw [if_neg hr]
        rw [if_pos ⟨by omega, hr2⟩] at hfn
        rw [if_neg hr] at hPn
        have hx : r5 R f 5 n = P n := by rw [r5_5, hfn, hPn]
        refine ⟨?_, fun j => ?_⟩
        · rw [hx]
          unfold takeS gc4 gc3 gc2 gc1
          rw [r5_c (by decide), r5_c (by decide), r5_c (by decide), r5_u (by decide), r5_u (by decide), r5_u (by decide)]
          rw [u2_c _ _ _ (show ¬ 3 = 1 by decide), u2_c _ _ _ (show ¬ 3 = 0 by decide), u2_c _ _ _ (show ¬ 3 = 5 by decide), u2_c _ _ _ (show ¬ 1 = 0 by decide), u2_c _ _ _ (show ¬ 1 = 5 by decide), u2_c _ _ _ (show ¬ 0 = 5 by decide)]
          rw [u2_sort _ _ _ _ _ (show 0 < 5 by decide), u2_sort _ _ _ _ _ (show 1 < 5 by decide), u2_sort _ _ _ _ _ (show 3 < 5 by decide), r5_u5]
        · rw [hg5]
          exact row5 _ (by rw [hPn, hfn]) j
theorem draw_5 {C : Cf} {N : Nat → Nat} {S : St} {w j : Nat} (h : ¬ j = w) : drawS C N S w 5 j = S 5 j := by
  unfold drawS
  rw [itr_c (fun n T => chgS_c (by decide)), dr3_c (by decide) (by decide)]
  unfold dr1
  rw [findS_oth _ _ _ (by decide) (by decide), giveS_c (by decide) (by decide) (by decide), u2_ne _ _ _ h]
theorem dw_5 (C : Cf) (N : Nat → Nat) (S : St) (j : Nat) (h : ¬ C 3 j = 0) : ∀ n, itr (dwS C N) S n 5 j = S 5 j
  | 0 => rfl
  | n + 1 => by
    show dwS C N n (itr (dwS C N) S n) 5 j = _
    rw [← dw_5 C N S j h n]
    generalize itr (dwS C N) S n = T
    unfold dwS
    by_cases hd : drw C T n = false
    · rw [if_pos hd]
    · rw [if_neg hd]
      refine draw_5 (fun e => hd ?_)
      subst e
      unfold drw
      exact if_pos h
theorem sh_5 (C : Cf) (N : Nat → Nat) (S : St) : ∀ n w, w < n → itr (shW C N) S n 5 w = 0
  | 0, w, h => absurd h (by omega)
  | n + 1, w, h => by
    show shW C N n (itr (shW C N) S n) 5 w = 0
    unfold shW
    rw [u2_c _ _ _ (by decide), u2_ap]
    by_cases hw : w = n
    · rw [if_pos ⟨rfl, hw⟩]
    · rw [if_neg (fun z => hw z.2)]
      exact sh_5 C N S n w (by omega)
theorem rt_m (C : Cf) (N : Nat → Nat) (S : St) (P : Nat → Int64) (hC : Cok C N) (hB : Bok N S) : rtS C N (m3S C N S) P (mBr C N S) (mSel C N S).1 = m4S C N S := by
  have hB6 : ∀ w, w < N 0 → m3S C N S 6 w = 0 ∨ m3S C N S 6 w = 1 := by
    intro w hw
    have := d6_ok C N S hB (N 0) (Nat.le_refl _) w hw
    unfold m3S m2S
    rw [u2_c _ _ _ (by decide)]
    exact this
  have hM : ∀ w, w < N 0 → ¬ C 3 w = 0 → m3S C N S 5 w = 0 := by
    intro w hw h
    unfold m3S m2S
    rw [u2_c _ _ _ (by decide), dw_5 C N _ w h]
    exact sh_5 C N _ (N 0) w hw
  unfold m4S
  generalize m3S C N S = T at hB6 hM
  generalize mBr C N S = br
  generalize (mSel C N S).1 = hot
  have hw : wgM C T (N 0) = wgt C T (N 0) := by
    unfold wgM wgt
    refine itr_congr _ _ (fun i hi x => ?_)
    show x + (if C 3 i = 0 then 0 else if ¬ T 6 i = 0 then 0 else (C 4 i).toInt64) = _
    rw [rt_if (hB6 i hi)]
    split
    · exact Int64.add_zero _
    · rfl
  unfold rtS rtP gbS
  rw [hw]
  generalize wgt C T (N 0) = W
  have hl : lft C br W T (N 0) = lfM C T br W (N 0) := by
    unfold lft lfM
    refine itr_congr _ _ (fun i hi x => ?_)
    have e6 : itr (gb1 C br W) T i 6 = T 6 := itr_c (fun n T => gb1_c (by decide)) T i
    have e3 : itr (gb1 C br W) T i 3 = T 3 := itr_c (fun n T => gb1_c (by decide)) T i
    rw [ret_congr e6, partV_congr e3, ptB_m (hB6 i hi)]
    split
    · exact (Int64.sub_zero _).symm
    · rfl
  have hU : itr (gb1 C br W) T (N 0) = r5 T (itr (gb1 C br W) T (N 0) 5) := by
    funext a
    by_cases h5 : a = 5
    · subst h5
      rfl
    · rw [r5_c h5]
      exact itr_c (fun n T => gb1_c h5) T (N 0)
  have hf := gb1_5 C br W T (N 0)
  rw [hU, r5_c (by decide), r5_u (by decide), hl]
  generalize itr (gb1 C br W) T (N 0) 5 = f at hf
  have hP := ptP_at C T br W P (N 0)
  generalize itr (ptP C T br W) P (N 0) = P2 at hP
  have hg := rt_go (hot := hot) (S0 := u2 T 12 2 (T 12 2 + lfM C T br W (N 0))) hB6 hM hf hP (u2_c _ _ _ (by decide)) (u2_c _ _ _ (by decide)) (N 0) (Nat.le_refl _)
  rw [hg.1, r5_eq]
  funext j
  rw [hg.2]
  by_cases hj : j < N 0
  · rw [if_pos hj]
  · rw [if_neg hj, hf, if_neg (fun z => hj z.1)]
def adj (fr t : Nat) (f g r : Int64) (c j : Nat) (v : Int64) : Int64 := if c < 3 then (if j = t then v + (if c = 0 then f else if c = 1 then g else r) else if j = fr then v - (if c = 0 then f else if c = 1 then g else r) else v) else v
theorem lk_adj {fr t : Nat} (h : ¬ t = fr) (f g r : Int64) (Y : St) (c j : Nat) : yAd 2 t r (ySb 2 fr r (yAd 1 t g (ySb 1 fr g (yAd 0 t f (ySb 0 fr f Y))))) c j = adj fr t f g r c j (Y c j) := by
  unfold adj yAd ySb
  have h' : ¬ fr = t := fun e => h e.symm
  by_cases h3 : c < 3
  · rw [if_pos h3]
    rcases (show c = 0 ∨ c = 1 ∨ c = 2 by omega) with rfl | rfl | rfl
    all_goals
      by_cases hj : j = t
      · subst hj
        simp [u2_ap, h, h']
      · by_cases hf : j = fr
        · subst hf
          simp [u2_ap, h, h']
        · simp [u2_ap, hj, hf]
  · rw [if_neg h3, u2_c _ _ _ (by omega), u2_c _ _ _ (by omega), u2_c _ _ _ (by omega), u2_c _ _ _ (by omega), u2_c _ _ _ (by omega), u2_c _ _ _ (by omega)]
theorem fl_adj {a b : Nat} (h : ¬ b = a) (T Z : St) (wd : Int32) (c j : Nat) : flowS T Z a b wd c j = adj a b ((Z 0 a - Z 0 b) * wd.toInt64 / 1000) ((Z 0 a - Z 0 b) * wd.toInt64 / 1000 * Z 1 a) (Z 2 a * ((Z 0 a - Z 0 b) * wd.toInt64 / 1000) / Z 0 a) c j (T c j) := by
  unfold flowS takeS
  generalize Z 2 a * ((Z 0 a - Z 0 b) * wd.toInt64 / 1000) / Z 0 a = r
  generalize (Z 0 a - Z 0 b) * wd.toInt64 / 1000 = f
  generalize f * Z 1 a = g
  have h' : ¬ a = b := fun e => h e.symm
  unfold adj
  by_cases h3 : c < 3
  · rw [if_pos h3]
    rcases (show c = 0 ∨ c = 1 ∨ c = 2 by omega) with rfl | rfl | rfl
    all_goals
      by_cases hj : j = b
      · subst hj
        simp [u2_ap, h, h']
      · by_cases hf : j = a
        · subst hf
          simp [u2_ap, h, h']
        · simp [u2_ap, hj, hf]
  · rw [if_neg h3, u2_c _ _ _ (by omega), u2_c _ _ _ (by omega), u2_c _ _ _ (by omega), u2_c _ _ _ (by omega), u2_c _ _ _ (by omega), u2_c _ _ _ (by omega)]
theorem adj_0 (fr t c j : Nat) (v : Int64) : adj fr t 0 0 0 c j v = v := by
  unfold adj
  simp
def zOf (S : St) : St := fun c b => if c = 0 then S 0 b else if c = 1 then deg S b else S 2 b
theorem lkR_m (S : St) (b : Nat) (f : Int64) : lkR S b f = S 2 b * f / S 0 b := by
  unfold lkR
  by_cases h : S 0 b = 0
  · rw [if_neg (fun z => z h), h]
    exact Int64.div_zero.symm
  · rw [if_pos h]
theorem fb_adj {a b : Nat} (h : ¬ b = a) (S T : St) (wd : Int32) (c j : Nat) : fbS T (zOf S) a b wd c j = adj (lkF S a b) (lkT S a b) (lkW S wd a b) (lkW S wd a b * deg S (lkF S a b)) (lkR S (lkF S a b) (lkW S wd a b)) c j (T c j) := by
  rw [lkR_m]
  by_cases h1 : S 0 a ≤ S 0 b
  · have eF : lkF S a b = b := if_pos h1
    have eT : lkT S a b = a := by unfold lkT; rw [eF]; exact if_pos h
    unfold lkW
    rw [eF, eT]
    by_cases h2 : S 0 b ≤ S 0 a
    · have e : fbS T (zOf S) a b wd = T := by
        unfold fbS
        exact (if_pos h1).trans (if_pos h2)
      have e2 : S 0 b = S 0 a := by
        rw [z_le] at h1 h2
        rw [z_eq]
        omega
      have e3 : (S 0 b - S 0 a) * wd.toInt64 / 1000 = 0 := by
        rw [e2, Int64.sub_self, Int64.zero_mul]
        rfl
      rw [e, e3, Int64.zero_mul, Int64.mul_zero, Int64.zero_div, adj_0]
    · have e : fbS T (zOf S) a b wd = flowS T (zOf S) b a wd := by
        unfold fbS
        exact (if_pos h1).trans (if_neg h2)
      rw [e, fl_adj (fun z => h z.symm)]
      rfl
  · have eF : lkF S a b = a := if_neg h1
    have eT : lkT S a b = b := by unfold lkT; rw [eF]; exact if_neg (fun z => z rfl)
    have e : fbS T (zOf S) a b wd = flowS T (zOf S) a b wd := by
      unfold fbS
      exact if_neg h1
    unfold lkW
    rw [eF, eT, e, fl_adj h]
    rfl
theorem lkT_ne {S : St} {a b : Nat} (h : ¬ b = a) : ¬ lkT S a b = lkF S a b := by
  unfold lkT
  by_cases hc : lkF S a b = a
  · rw [if_neg (fun z => z hc), hc]
    exact h
  · rw [if_pos hc]
    exact fun e => hc e.symm
theorem adj_add (fr t : Nat) (f g r : Int64) (c j : Nat) (s y : Int64) : adj fr t f g r c j (s + y) = s + adj fr t f g r c j y := by
  unfold adj
  by_cases h3 : c < 3
  · rw [if_pos h3, if_pos h3]
    by_cases hj : j = t
    · rw [if_pos hj, if_pos hj, Int64.add_assoc]
    · rw [if_neg hj, if_neg hj]
      by_cases hf : j = fr
      · rw [if_pos hf, if_pos hf, Int64.sub_eq_add_neg, Int64.sub_eq_add_neg, Int64.add_assoc]
      · rw [if_neg hf, if_neg hf]
  · rw [if_neg h3, if_neg h3]
theorem adj_id {fr t : Nat} {f g r : Int64} {c j : Nat} (v : Int64) (h : 3 ≤ c ∨ (¬ j = t ∧ ¬ j = fr)) : adj fr t f g r c j v = v := by
  unfold adj
  by_cases h3 : c < 3
  · rw [if_pos h3, if_neg (by omega), if_neg (by omega)]
  · rw [if_neg h3]
/-- the two ways of holding the flows -/
def Sm (S T Y : St) : Prop := ∀ c j, T c j = if c < 3 ∧ j < 12 then S c j + Y c j else S c j
theorem sm_edge {S T Y : St} {a b : Nat} {wd : Int32} (hS : Sm S T Y) (ha : a < 12) (hb : b < 12) (h : ¬ b = a) : Sm S (fbS T (zOf S) a b wd) (lkY S wd a b Y) := by
  intro c j
  rw [fb_adj h, hS]
  have hl : lkY S wd a b Y c j = adj (lkF S a b) (lkT S a b) (lkW S wd a b) (lkW S wd a b * deg S (lkF S a b)) (lkR S (lkF S a b) (lkW S wd a b)) c j (Y c j) := lk_adj (lkT_ne h) _ _ _ Y c j
  by_cases hc : c < 3 ∧ j < 12
  · rw [if_pos hc, if_pos hc, adj_add, hl]
  · rw [if_neg hc, if_neg hc]
    have h1 := lkF_lt (S := S) ha hb
    have h2 := lkT_lt (S := S) ha hb
    exact adj_id _ (by omega)
theorem nb_m : ∀ b, b < 12 → ((12 ≤ b + 1 ∨ nbr b (b + 1) = false) ↔ 3 ≤ b % 4) := by decide +kernel
theorem sm_go {C : Cf} {S Y0 : St} (h0 : Sm S S Y0) : ∀ n, n ≤ 12 → Sm S (itr (crS C (zOf S)) S n) (itr (ckM C S) Y0 n)
  | 0, _ => h0
  | n + 1, hn => by
    have ih := sm_go (C := C) h0 n (by omega)
    have e1 : itr (crS C (zOf S)) S (n + 1) = crS C (zOf S) n (itr (crS C (zOf S)) S n) := rfl
    have e2 : itr (ckM C S) Y0 (n + 1) = ckM C S n (itr (ckM C S) Y0 n) := rfl
    rw [e1, e2]
    generalize itr (crS C (zOf S)) S n = T at ih
    generalize itr (ckM C S) Y0 n = Y at ih
    have hnb := nb_m n (by omega)
    have s1 : Sm S (if 12 ≤ n + 1 then T else if nbr n (n + 1) = false then T else fbS T (zOf S) n (n + 1) (C 0 n)) (ckR C S n Y) := by
      unfold ckR
      by_cases h3 : 3 ≤ n % 4
      · rw [if_pos h3]
        rcases hnb.mpr h3 with h | h
        · rw [if_pos h]
          exact ih
        · by_cases hh : 12 ≤ n + 1
          · rw [if_pos hh]
            exact ih
          · rw [if_neg hh, if_pos h]
            exact ih
      · rw [if_neg h3, if_neg (fun z => h3 (hnb.mp (Or.inl z))), if_neg (fun z => h3 (hnb.mp (Or.inr z)))]
        exact sm_edge ih (by omega) (by omega) (by omega)
    unfold crS ckM
    by_cases h : 8 ≤ n
    · rw [if_pos h, if_pos (by omega)]
      exact s1
    · rw [if_neg h, if_neg (by omega)]
      exact sm_edge s1 (by omega) (by omega) (by omega)
theorem zrM_at (Y : St) (n c j : Nat) : zrM n Y c j = if c = 2 ∧ j = n then 0 else if c = 1 ∧ j = n then 0 else if c = 0 ∧ j = n then 0 else Y c j := by
  unfold zrM
  rw [u2_ap, u2_ap, u2_ap]
theorem adM_at (Y S : St) (n c j : Nat) : adM Y n S c j = if c = 2 ∧ j = n then S 2 n + Y 2 n else if c = 1 ∧ j = n then S 1 n + Y 1 n else if c = 0 ∧ j = n then S 0 n + Y 0 n else S c j := by
  unfold adM yAd
  rw [u2_c _ _ _ (show ¬ 2 = 1 by decide), u2_c _ _ _ (show ¬ 2 = 0 by decide), u2_c _ _ _ (show ¬ 1 = 0 by decide), u2_ap, u2_ap, u2_ap]
theorem zr_at (Y : St) : ∀ n c j, itr zrM Y n c j = if c < 3 ∧ j < n then 0 else Y c j
  | 0, c, j => (if_neg (by omega)).symm
  | n + 1, c, j => by
    show zrM n (itr zrM Y n) c j = _
    have ih := zr_at Y n c j
    rw [zrM_at, ih]
    by_cases h2 : c = 2 ∧ j = n
    · rw [if_pos h2, if_pos (by omega)]
    · rw [if_neg h2]
      by_cases h1 : c = 1 ∧ j = n
      · rw [if_pos h1, if_pos (by omega)]
      · rw [if_neg h1]
        by_cases h0 : c = 0 ∧ j = n
        · rw [if_pos h0, if_pos (by omega)]
        · rw [if_neg h0]
          by_cases hh : c < 3 ∧ j < n
          · rw [if_pos hh, if_pos (by omega)]
          · rw [if_neg hh, if_neg (by omega)]
theorem ad_at (Y S : St) : ∀ n c j, itr (adM Y) S n c j = if c < 3 ∧ j < n then S c j + Y c j else S c j
  | 0, c, j => (if_neg (by omega)).symm
  | n + 1, c, j => by
    show adM Y n (itr (adM Y) S n) c j = _
    have ih := ad_at Y S n
    rw [adM_at, ih, ih, ih, ih]
    by_cases hj : j = n
    · subst hj
      by_cases h3 : c < 3
      · rcases (show c = 0 ∨ c = 1 ∨ c = 2 by omega) with rfl | rfl | rfl <;> simp
      · rw [if_neg (by omega), if_neg (by omega), if_neg (by omega), if_neg (by omega), if_neg (by omega)]
    · rw [if_neg (fun z => hj z.2), if_neg (fun z => hj z.2), if_neg (fun z => hj z.2)]
      by_cases hh : c < 3 ∧ j < n
      · rw [if_pos hh, if_pos (by omega)]
      · rw [if_neg hh, if_neg (by omega)]
theorem crk_m (C : Cf) (S Y : St) : crM C S Y = crk C S := by
  unfold crM crk
  have h0 : Sm S S (itr zrM Y 12) := by
    intro c j
    rw [zr_at]
    by_cases h : c < 3 ∧ j < 12
    · rw [if_pos h, if_pos h]
      exact (Int64.add_zero _).symm
    · rw [if_neg h]
  have h := sm_go (C := C) h0 12 (Nat.le_refl _)
  funext c j
  have e : itr (crS C (zOf S)) S 12 c j = _ := h c j
  rw [ad_at]
  exact e.symm
def monP (C : Cf) (N : Nat → Nat) (S : St) (P : Nat → Int64) : Nat → Int64 := rtP C N (m3S C N S) P (mBr C N S)
def monY (C : Cf) (N : Nat → Nat) (S Y : St) : St := ckY C (m5S C N S) Y

theorem hV_X7_month : yX7_month.cls = RX7 ∧ yX7_month.cls ≠ "java/lang/invoke/MethodHandle" ∧ yX7_month.cls ≠ "java/lang/invoke/VarHandle" ∧ (parseMethodDescriptor yX7_month.desc).map (fun d => d.parameters.length) = some 0 := by decide +kernel
abbrev rm_X7_month : Room := { frames := 5, cells := 0, slots := 0, locals := 108 }
set_option maxRecDepth 100000 in
set_option maxHeartbeats 4000000 in
theorem m_X7_month (l : Launch) (D : va_G) (cI cJ cZ : ClassId) (h : Nat → Nat) (th : Int32) (C : Cf) (N : Nat → Nat) (S : St) (Qk K P : Nat → Int64) (Y : St) (k : Int) (hC : Cok C N) (hR : Rok C) (hW : Wk k S) (h0 : 0 ≤ k) (hk : k + 200000000 ≤ 1099511627776) (hE : Wel N S) (hm : (S 13 0).toInt ≤ 900) (hq : S 14 0 = lN (qN S) ∧ qN S ≤ 800000) (hB : Bok N S) (hX : Xok C) : g_Ct l D cI cJ cZ yX7_month cX7_month 10 none rm_X7_month 0 0 [.ref (h 0)] (wM h cI cJ cZ th C N S Qk K P Y) (g_eq none (wM h cI cJ cZ th C N (monS C N S) (monQ C N S Qk) K (monP C N S P) (monY C N S Y))) := by
  refine g_body RX7 [(0, .ref (h 0))] kH_X7 rfl (Nat.le_of_ble_eq_true rfl) rfl ?_
  intro p e s m args below meth c A X hr hlk hmn Q hQ
  have hN0 := hC.n0
  have hN1 := hC.n1
  have hN2 := hC.n2
  have h1 := m1_ok C N S k hW hE hm
  have h4 := m4_ok C N S k hC hW h0 hk hE hm
  have hq4 : m4S C N S 14 0 = lN (qN (m4S C N S)) ∧ qN (m4S C N S) ≤ 900000 := by unfold qN; rw [m4_q]; exact ⟨hq.1, Nat.le_trans hq.2 (by decide)⟩
  have hq8 : qN (m4S C N S) ≤ 800000 := by unfold qN; rw [m4_q]; exact hq.2
  have h5 : Wk (k + 100000000) (m5S C N S) := h4.row (m5_0 _ 12)
  have h6 := crk_ok C _ _ hX (by omega) h5
  have h7 := (ra_ok C (m6S C N S) (k + 100000000) hR h6 (by omega) (by omega) 12 (by omega)).1
  have h6 : Wk (k + 100000000) (m6S C N S) := h6
  have h7 : Wk (k + 100000000 + 500) (m7S C N S) := h7
  have hrt := rt_m C N S P hC hB
  have hd6 := d6_ok C N S hB
  obtain ⟨M1, hM1⟩ : ∃ z : St, z = m1S C N S := ⟨_, rfl⟩
  obtain ⟨M2, hM2⟩ : ∃ z : St, z = m2S C N S := ⟨_, rfl⟩
  obtain ⟨M3, hM3⟩ : ∃ z : St, z = m3S C N S := ⟨_, rfl⟩
  obtain ⟨M4, hM4⟩ : ∃ z : St, z = m4S C N S := ⟨_, rfl⟩
  obtain ⟨M5, hM5⟩ : ∃ z : St, z = m5S C N S := ⟨_, rfl⟩
  obtain ⟨M6, hM6⟩ : ∃ z : St, z = m6S C N S := ⟨_, rfl⟩
  obtain ⟨M7, hM7⟩ : ∃ z : St, z = m7S C N S := ⟨_, rfl⟩
  obtain ⟨MS, hMS⟩ : ∃ z : St, z = monS C N S := ⟨_, rfl⟩
  obtain ⟨MQ, hMQ⟩ : ∃ z : Nat → Int64, z = monQ C N S Qk := ⟨_, rfl⟩
  obtain ⟨MP, hMP⟩ : ∃ z : Nat → Int64, z = monP C N S P := ⟨_, rfl⟩
  obtain ⟨MY, hMY⟩ : ∃ z : St, z = monY C N S Y := ⟨_, rfl⟩
  obtain ⟨BR, hBR⟩ : ∃ z : Int64, z = mBr C N S := ⟨_, rfl⟩
  obtain ⟨BH, hBH⟩ : ∃ z : Int64, z = mBh C N S := ⟨_, rfl⟩
  obtain ⟨SL, hSL⟩ : ∃ z : Int64 × Int64, z = mSel C N S := ⟨_, rfl⟩
  have hM1p : M1 = itr (shW C N) (u2 S 13 0 (S 13 0 + 1)) (N 0) := by rw [hM1]; rfl
  have hM2p : M2 = itr (dwS C N) M1 (N 0) := by rw [hM2, hM1]; rfl
  have hBRp : BR = brn C N M1 (N 0) := by rw [hBR, hM1]; rfl
  have hBHp : BH = brh C N M1 (N 0) := by rw [hBH, hM1]; rfl
  have hSLp : SL = selP C BR BH (M2 12 5) (N 1) := by rw [hSL, hBR, hBH, hM2]; rfl
  have hM3p : M3 = u2 M2 12 5 SL.2 := by rw [hM3, hM2, hSL]; rfl
  have hM5p : M5 = itr shS M4 12 := by rw [hM5, hM4]; rfl
  have hM6p : M6 = crk C M5 := by rw [hM6, hM5]; rfl
  have hM7p : M7 = itr (raS C) M6 12 := by rw [hM7, hM6]; rfl
  have hMSp : MS = itr (feS C) M7 (N 2) := by rw [hMS, hM7]; rfl
  have hMQp : MQ = shQ M4 Qk 12 := by rw [hMQ, hM4]; rfl
  have hMPp : MP = rtP C N M3 P BR := by rw [hMP, hM3, hBR]; rfl
  have hMYp : MY = ckY C M5 Y := by rw [hMY, hM5]; rfl
  rw [← hM1] at h1 hd6
  rw [← hM4] at hq4 hq8
  rw [← hM5] at h5
  rw [← hM6] at h6
  rw [← hM7] at h7
  rw [← hM4, ← hM3, ← hBR, ← hSL] at hrt
  refine g_aload_n X 0 dX7_month_0 rfl rfl ?_
  refine g_get X (C := RX7) (T := TX7) (N := 21) (v := .ref (h 1)) inlX7 0 rfl rfl 1 (Nat.le_of_ble_eq_true rfl) kF_X7_7 rfl dX7_month_1 ?_
  refine g_sipush X (v := nI 154) dX7_month_4 (by decide +kernel) ?_
  refine g_dup2_11 X dX7_month_7 rfl rfl ?_
  refine g_lald X 1 rfl (154 + 0) (congrArg nI (show 154 = 154 + 0 by omega)) (by omega) (Nat.le_of_ble_eq_true rfl) (v := S 13 0) (fl_13 _ _ (i := 0) (by omega)) dX7_month_8 ?_
  refine g_lconst X (v := 1) dX7_month_9 (by decide +kernel) ?_
  refine g_ladd X (v := (S 13 0) + (1 : Int64)) dX7_month_10 rfl ?_
  obtain ⟨S1, eS1⟩ : ∃ z : St, z = u2 S 13 0 ((S 13 0) + (1 : Int64)) := ⟨_, rfl⟩
  refine g_last X (ws' := wM h cI cJ cZ th C N S1 Qk K P Y) 1 rfl (154 + 0) (congrArg nI (show 154 = 154 + 0 by omega)) (by omega) (Nat.le_of_ble_eq_true rfl) dX7_month_11 (by rw [eS1]; first | done | (rw [flu_13 _ _ (i := 0) _ (by omega)]; rfl)) ?_
  refine g_aload_n X 0 dX7_month_12 rfl rfl ?_
  obtain ⟨S2, eS2⟩ : ∃ z : St, z = itr (shW C N) S1 (N 0) := ⟨_, rfl⟩
  refine g_callV X (As := []) (rest := []) (m_X7_shuts l D cI cJ cZ h th C N S1 Qk K P Y hC) kM_X7_161 kI_yX7_shuts kS_yX7_shuts kZ_RX7 kC_yX7_shuts hV_X7_shuts rfl rfl rfl 0 rfl (ci := 7) rfl ⟨Nat.le_of_ble_eq_true rfl, Nat.le_of_ble_eq_true rfl⟩ ⟨Nat.le_of_ble_eq_true rfl, Nat.le_of_ble_eq_true rfl⟩ (Nat.le_of_ble_eq_true rfl) dX7_month_13 rfl [0, 1, 2, 3, 4, 5, 6, 7, 8, 9, 10, 11, 12, 13, 14, 15, 16] rfl rfl (g_kk1 (w2 := wM h cI cJ cZ th C N S2 Qk K P Y) (by rw [eS2]; exact ⟨[0, 1, 2, 3, 4, 5, 6, 7, 8, 9, 10, 11, 12, 13, 14, 15, 16], [], [0, 1, 2, 3, 4, 5, 6, 7, 8, 9, 10, 11, 12, 13, 14, 15, 16], [], rfl, rfl, rfl, rfl, by decide, rfl, rfl⟩) ?_)
  replace eS2 : S2 = M1 := by rw [eS2]; (try rw [eS1]); first | done | exact hM1p.symm
  refine g_lconst X (v := 0) dX7_month_16 (by decide +kernel) ?_
  refine g_lstore_n X [(1, .long (0 : Int64)), (0, .ref (h 0))] dX7_month_17 rfl (Nat.le_of_ble_eq_true rfl) rfl ?_
  refine g_lconst X (v := 0) dX7_month_18 (by decide +kernel) ?_
  refine g_lstore_n X [(3, .long (0 : Int64)), (1, .long (0 : Int64)), (0, .ref (h 0))] dX7_month_19 rfl (Nat.le_of_ble_eq_true rfl) rfl ?_
  refine g_iconst X (v := nI 0) dX7_month_20 (by decide +kernel) ?_
  refine g_istore X [(5, .int (nI 0)), (3, .long (0 : Int64)), (1, .long (0 : Int64)), (0, .ref (h 0))] dX7_month_21 (Nat.le_of_ble_eq_true rfl) rfl ?_
  have L3 : ∀ (n5 i4 : Nat) (S6 : St) (a7 : Int64) (a8 : Int64), i4 + n5 = (N 0) → S6 = itr (dwS C N) M1 i4 → a7 = brn C N M1 i4 → a8 = brh C N M1 i4 → g_G p l e rm_X7_month s m args below meth c D A 10 0 0 Q (wM h cI cJ cZ th C N S6 Qk K P Y) [(0, .ref (h 0)), (1, .long a7), (3, .long a8), (5, .int (nI i4))] 23 [] := by
    intro n5
    induction n5 with
    | zero =>
      intro i4 S6 a7 a8 hi9 eS6 ea7 ea8
      obtain rfl : i4 = (N 0) := by omega
      refine g_iload X 3 dX7_month_23 rfl ?_
      refine g_aload_n X 0 dX7_month_25 rfl rfl ?_
      refine g_get X (C := RX7) (T := TX7) (N := 21) (v := .int (nI (N 0))) inlX7 0 rfl rfl 6 (Nat.le_of_ble_eq_true rfl) kF_X7_72 rfl dX7_month_26 ?_
      refine g_icN_ge X (a := (N 0)) (b := N 0) (tgt := 103) (by omega) (by omega) dX7_month_29 (by decide) (fun h10 => ?_) (fun h10 => absurd h10 (by omega))
      replace eS6 : S6 = M2 := by rw [eS6, hM2p]
      replace ea7 : a7 = BR := by rw [ea7, hBRp]
      replace ea8 : a8 = BH := by rw [ea8, hBHp]
      refine g_lload_n X 1 dX7_month_103 rfl rfl ?_
      refine g_lconst X (v := 0) dX7_month_104 (by decide +kernel) ?_
      have J13 : ∀ (v12 : Int64), v12 = (if a7 ≤ (0 : Int64) then (0 : Int64) else a8 / a7) → g_G p l e rm_X7_month s m args below meth c D A 10 0 0 Q (wM h cI cJ cZ th C N S6 Qk K P Y) [(0, .ref (h 0)), (1, .long a7)] 116 [.long v12] := by
        intro v12 ev12
        refine g_lstore X [(5, .long v12), (0, .ref (h 0)), (1, .long a7)] dX7_month_116 (Nat.le_of_ble_eq_true rfl) rfl ?_
        by_cases hx : BR ≤ 0
        · --
          refine g_iconst X (v := nI 0) dX7_month_118 (by decide +kernel) ?_
          refine g_istore X [(7, .int (nI 0)), (5, .long v12), (0, .ref (h 0)), (1, .long a7)] dX7_month_119 (Nat.le_of_ble_eq_true rfl) rfl ?_
          refine g_iload X 0 dX7_month_121 rfl ?_
          refine g_aload_n X 2 dX7_month_123 rfl rfl ?_
          refine g_get X (C := RX7) (T := TX7) (N := 21) (v := .int (nI (N 1))) inlX7 0 rfl rfl 11 (Nat.le_of_ble_eq_true rfl) kF_X7_104 rfl dX7_month_124 ?_
          have J16 : g_G p l e rm_X7_month s m args below meth c D A 10 0 0 Q (wM h cI cJ cZ th C N S6 Qk K P Y) [(0, .ref (h 0)), (1, .long a7), (5, .long v12)] 193 [] := by
            have hz := selP_z C BR BH (M2 12 5) hx (N 1)
            replace ev12 : v12 = SL.1 := by (try rw [ev12]); (try rw [ea8]); (try rw [ea7]); (try rw [eS6]); (try rw [eS2]); (try rw [eS1]); rw [hSLp]; rw [hz]; exact if_pos hx
            obtain ⟨S17, eS17⟩ : ∃ z : St, z = M3 := ⟨_, rfl⟩
            have eq_S17 : S6 = S17 := by rw [eS17, hM3p, hSLp]; (try rw [ev12]); (try rw [ea8]); (try rw [ea7]); (try rw [eS6]); (try rw [eS2]); (try rw [eS1]); rw [hz]; exact (u2_self _ _ _).symm
            rw [eq_S17]
            refine g_aload_n X 0 dX7_month_193 rfl rfl ?_
            refine g_lload_n X 1 dX7_month_194 rfl rfl ?_
            refine g_lload X 2 dX7_month_195 rfl ?_
            obtain ⟨S18, eS18⟩ : ∃ z : St, z = rtS C N S17 P a7 v12 := ⟨_, rfl⟩
            obtain ⟨P19, eP19⟩ : ∃ z : Nat → Int64, z = rtP C N S17 P a7 := ⟨_, rfl⟩
            refine g_callV X (As := [.long a7, .long v12]) (rest := []) (m_X7_returns l D cI cJ cZ h th C N S17 Qk K P Y a7 v12 hC) kM_X7_167 kI_yX7_returns kS_yX7_returns kZ_RX7 kC_yX7_returns hV_X7_returns rfl rfl rfl 0 rfl (ci := 7) rfl ⟨Nat.le_of_ble_eq_true rfl, Nat.le_of_ble_eq_true rfl⟩ ⟨Nat.le_of_ble_eq_true rfl, Nat.le_of_ble_eq_true rfl⟩ (Nat.le_of_ble_eq_true rfl) dX7_month_197 rfl [0, 1, 2, 3, 4, 5, 6, 7, 8, 9, 10, 11, 12, 13, 14, 15, 16] rfl rfl (g_kk1 (w2 := wM h cI cJ cZ th C N S18 Qk K P19 Y) (by rw [eP19]; rw [eS18]; exact ⟨[0, 1, 2, 3, 4, 5, 6, 7, 8, 9, 10, 11, 12, 13, 14, 15, 16], [], [0, 1, 2, 3, 4, 5, 6, 7, 8, 9, 10, 11, 12, 13, 14, 15, 16], [], rfl, rfl, rfl, rfl, by decide, rfl, rfl⟩) ?_)
            replace eS18 : S18 = M4 := by rw [eS18]; (try rw [eP19]); (try rw [eS17]); (try rw [ev12]); (try rw [ea8]); (try rw [ea7]); (try rw [eS2]); (try rw [eS1]); first | done | exact hrt
            replace eP19 : P19 = MP := by rw [eP19]; (try rw [eS18]); (try rw [eS17]); (try rw [ev12]); (try rw [ea8]); (try rw [ea7]); (try rw [eS2]); (try rw [eS1]); first | done | exact hMPp.symm
            refine g_iconst X (v := nI 0) dX7_month_200 (by decide +kernel) ?_
            refine g_istore X [(7, .int (nI 0)), (0, .ref (h 0)), (1, .long a7), (5, .long v12)] dX7_month_201 (Nat.le_of_ble_eq_true rfl) rfl ?_
            have L20 : ∀ (n22 i21 : Nat) (S23 : St) (Qk24 : Nat → Int64), i21 + n22 = 12 → S23 = itr shS M4 i21 → Qk24 = shQ M4 Qk i21 → g_G p l e rm_X7_month s m args below meth c D A 10 0 0 Q (wM h cI cJ cZ th C N S23 Qk24 K P19 Y) [(0, .ref (h 0)), (7, .int (nI i21))] 203 [] := by
              intro n22
              induction n22 with
              | zero =>
                intro i21 S23 Qk24 hi25 eS23 eQk24
                obtain rfl : i21 = 12 := by omega
                refine g_iload X 1 dX7_month_203 rfl ?_
                refine g_bipush X (v := nI 12) dX7_month_205 (by decide +kernel) ?_
                refine g_icN_ge X (a := 12) (b := 12) (tgt := 222) (by omega) (by omega) dX7_month_207 (by decide) (fun h26 => ?_) (fun h26 => absurd h26 (by omega))
                replace eS23 : S23 = M5 := by rw [eS23]; (try rw [eQk24]); (try rw [eP19]); (try rw [eS18]); (try rw [eS17]); (try rw [ev12]); (try rw [ea8]); (try rw [ea7]); (try rw [eS2]); (try rw [eS1]); first | done | exact hM5p.symm
                replace eQk24 : Qk24 = MQ := by rw [eQk24]; (try rw [eS23]); (try rw [eP19]); (try rw [eS18]); (try rw [eS17]); (try rw [ev12]); (try rw [ea8]); (try rw [ea7]); (try rw [eS2]); (try rw [eS1]); first | done | exact hMQp.symm
                refine g_aload_n X 0 dX7_month_222 rfl rfl ?_
                obtain ⟨S27, eS27⟩ : ∃ z : St, z = crM C S23 Y := ⟨_, rfl⟩
                obtain ⟨Y28, eY28⟩ : ∃ z : St, z = ckY C S23 Y := ⟨_, rfl⟩
                refine g_callV X (As := []) (rest := []) (m_X7_cracks l D cI cJ cZ h th C N S23 Qk24 K P19 Y (by rw [eS23]; exact h5.ok (by omega))) kM_X7_175 kI_yX7_cracks kS_yX7_cracks kZ_RX7 kC_yX7_cracks hV_X7_cracks rfl rfl rfl 0 rfl (ci := 7) rfl ⟨Nat.le_of_ble_eq_true rfl, Nat.le_of_ble_eq_true rfl⟩ ⟨Nat.le_of_ble_eq_true rfl, Nat.le_of_ble_eq_true rfl⟩ (Nat.le_of_ble_eq_true rfl) dX7_month_223 rfl [0, 1, 2, 3, 4, 5, 6, 7, 8, 9, 10, 11, 12, 13, 14, 15, 16] rfl rfl (g_kk1 (w2 := wM h cI cJ cZ th C N S27 Qk24 K P19 Y28) (by rw [eY28]; rw [eS27]; exact ⟨[0, 1, 2, 3, 4, 5, 6, 7, 8, 9, 10, 11, 12, 13, 14, 15, 16], [], [0, 1, 2, 3, 4, 5, 6, 7, 8, 9, 10, 11, 12, 13, 14, 15, 16], [], rfl, rfl, rfl, rfl, by decide, rfl, rfl⟩) ?_)
                replace eS27 : S27 = M6 := by rw [eS27]; (try rw [eY28]); (try rw [eQk24]); (try rw [eS23]); (try rw [eP19]); (try rw [eS18]); (try rw [eS17]); (try rw [ev12]); (try rw [ea8]); (try rw [ea7]); (try rw [eS2]); (try rw [eS1]); first | done | exact (crk_m _ _ _).trans hM6p.symm
                replace eY28 : Y28 = MY := by rw [eY28]; (try rw [eS27]); (try rw [eQk24]); (try rw [eS23]); (try rw [eP19]); (try rw [eS18]); (try rw [eS17]); (try rw [ev12]); (try rw [ea8]); (try rw [ea7]); (try rw [eS2]); (try rw [eS1]); first | done | exact hMYp.symm
                refine g_iconst X (v := nI 0) dX7_month_226 (by decide +kernel) ?_
                refine g_istore X [(7, .int (nI 0)), (0, .ref (h 0))] dX7_month_227 (Nat.le_of_ble_eq_true rfl) rfl ?_
                have L29 : ∀ (n31 i30 : Nat) (S32 : St), i30 + n31 = 12 → S32 = itr (raS C) M6 i30 → g_G p l e rm_X7_month s m args below meth c D A 10 0 0 Q (wM h cI cJ cZ th C N S32 Qk24 K P19 Y28) [(0, .ref (h 0)), (7, .int (nI i30))] 229 [] := by
                  intro n31
                  induction n31 with
                  | zero =>
                    intro i30 S32 hi33 eS32
                    obtain rfl : i30 = 12 := by omega
                    refine g_iload X 1 dX7_month_229 rfl ?_
                    refine g_bipush X (v := nI 12) dX7_month_231 (by decide +kernel) ?_
                    refine g_icN_ge X (a := 12) (b := 12) (tgt := 248) (by omega) (by omega) dX7_month_233 (by decide) (fun h34 => ?_) (fun h34 => absurd h34 (by omega))
                    replace eS32 : S32 = M7 := by rw [eS32]; (try rw [eY28]); (try rw [eS27]); (try rw [eQk24]); (try rw [eS23]); (try rw [eP19]); (try rw [eS18]); (try rw [eS17]); (try rw [ev12]); (try rw [ea8]); (try rw [ea7]); (try rw [eS2]); (try rw [eS1]); first | done | exact hM7p.symm
                    refine g_iconst X (v := nI 0) dX7_month_248 (by decide +kernel) ?_
                    refine g_istore X [(7, .int (nI 0)), (0, .ref (h 0))] dX7_month_249 (Nat.le_of_ble_eq_true rfl) rfl ?_
                    have L35 : ∀ (n37 i36 : Nat) (S38 : St), i36 + n37 = (N 2) → S38 = itr (feS C) M7 i36 → g_G p l e rm_X7_month s m args below meth c D A 10 0 0 Q (wM h cI cJ cZ th C N S38 Qk24 K P19 Y28) [(0, .ref (h 0)), (7, .int (nI i36))] 251 [] := by
                      intro n37
                      induction n37 with
                      | zero =>
                        intro i36 S38 hi39 eS38
                        obtain rfl : i36 = (N 2) := by omega
                        refine g_iload X 1 dX7_month_251 rfl ?_
                        refine g_aload_n X 0 dX7_month_253 rfl rfl ?_
                        refine g_get X (C := RX7) (T := TX7) (N := 21) (v := .int (nI (N 2))) inlX7 0 rfl rfl 14 (Nat.le_of_ble_eq_true rfl) kF_X7_75 rfl dX7_month_254 ?_
                        refine g_icN_ge X (a := (N 2)) (b := N 2) (tgt := 272) (by omega) (by omega) dX7_month_257 (by decide) (fun h40 => ?_) (fun h40 => absurd h40 (by omega))
                        replace eS38 : S38 = MS := by rw [eS38]; (try rw [eS32]); (try rw [eY28]); (try rw [eS27]); (try rw [eQk24]); (try rw [eS23]); (try rw [eP19]); (try rw [eS18]); (try rw [eS17]); (try rw [ev12]); (try rw [ea8]); (try rw [ea7]); (try rw [eS2]); (try rw [eS1]); first | done | exact hMSp.symm
                        refine g_vret X hr hlk hQ dX7_month_272 ?_
                        show g_eq _ _ _ _
                        try rw [eS38]
                        try rw [eS32]
                        try rw [eY28]
                        try rw [eS27]
                        try rw [eQk24]
                        try rw [eS23]
                        try rw [eP19]
                        try rw [eS18]
                        try rw [eS17]
                        try rw [ev12]
                        try rw [ea8]
                        try rw [ea7]
                        try rw [eS2]
                        try rw [eS1]
                        rw [← hMS, ← hMQ, ← hMP, ← hMY]
                        exact ⟨rfl, rfl⟩
                      | succ n37 ihL35 =>
                        intro i36 S38 hi39 eS38
                        have hlti36 : i36 < (N 2) := by omega
                        have hD := (fe_ok C N M7 (k + 100000000 + 500) hC h7 (by omega) i36 (by omega)).ok (show k + 100000000 + 500 ≤ 1099511627776 by omega)
                        rw [← eS38] at hD
                        refine g_iload X 1 dX7_month_251 rfl ?_
                        refine g_aload_n X 0 dX7_month_253 rfl rfl ?_
                        refine g_get X (C := RX7) (T := TX7) (N := 21) (v := .int (nI (N 2))) inlX7 0 rfl rfl 14 (Nat.le_of_ble_eq_true rfl) kF_X7_75 rfl dX7_month_254 ?_
                        refine g_icN_ge X (a := i36) (b := N 2) (tgt := 272) (by omega) (by omega) dX7_month_257 (by decide) (fun h41 => absurd h41 (by omega)) (fun h41 => ?_)
                        refine g_aload_n X 0 dX7_month_260 rfl rfl ?_
                        refine g_iload X 1 dX7_month_261 rfl ?_
                        obtain ⟨S42, eS42⟩ : ∃ z : St, z = feS C i36 S38 := ⟨_, rfl⟩
                        refine g_callV X (As := [.int (nI i36)]) (rest := []) (m_X7_springs l D cI cJ cZ h th C N S38 Qk24 K P19 Y28 i36 hC hD (by omega)) kM_X7_181 kI_yX7_springs kS_yX7_springs kZ_RX7 kC_yX7_springs hV_X7_springs rfl rfl rfl 0 rfl (ci := 7) rfl ⟨Nat.le_of_ble_eq_true rfl, Nat.le_of_ble_eq_true rfl⟩ ⟨Nat.le_of_ble_eq_true rfl, Nat.le_of_ble_eq_true rfl⟩ (Nat.le_of_ble_eq_true rfl) dX7_month_263 rfl [0, 1, 2, 3, 4, 5, 6, 7, 8, 9, 10, 11, 12, 13, 14, 15, 16] rfl rfl (g_kk1 (w2 := wM h cI cJ cZ th C N S42 Qk24 K P19 Y28) (by rw [eS42]; exact ⟨[0, 1, 2, 3, 4, 5, 6, 7, 8, 9, 10, 11, 12, 13, 14, 15, 16], [], [0, 1, 2, 3, 4, 5, 6, 7, 8, 9, 10, 11, 12, 13, 14, 15, 16], [], rfl, rfl, rfl, rfl, by decide, rfl, rfl⟩) ?_)
                        refine g_iinc X [(7, .int (nI (i36 + 1))), (0, .ref (h 0))] (q := 1) (v := nI (i36 + 1)) dX7_month_266 rfl ((congrArg (fun z => nI (i36) + z) (show Int32.ofInt 1 = nI 1 by decide +kernel)).trans ((nI_add _ _).trans (congrArg nI (by omega)))) (Nat.le_of_ble_eq_true rfl) rfl ?_
                        refine g_goto X (tgt := 251) dX7_month_269 (by decide) ?_
                        refine g_lv _ [1, 0] rfl ?_
                        exact ihL35 (i36 + 1) _ (by omega) (by (try rw [eS42]); (try rw [eS38]); first | done | (rfl))
                    refine g_lv _ [1, 0] rfl ?_
                    exact L35 ((N 2)) 0 _ (by omega) (by first | rfl | ((try rw [eS32]); (try rw [eY28]); (try rw [eS27]); (try rw [eQk24]); (try rw [eS23]); (try rw [eP19]); (try rw [eS18]); (try rw [eS17]); (try rw [ev12]); (try rw [ea8]); (try rw [ea7]); (try rw [eS2]); (try rw [eS1]); first | done | rfl))
                  | succ n31 ihL29 =>
                    intro i30 S32 hi33 eS32
                    have hlti30 : i30 < 12 := by omega
                    have hD := (ra_ok C M6 (k + 100000000) hR h6 (by omega) (by omega) i30 (by omega)).2 hlti30
                    rw [← eS32] at hD
                    refine g_iload X 1 dX7_month_229 rfl ?_
                    refine g_bipush X (v := nI 12) dX7_month_231 (by decide +kernel) ?_
                    refine g_icN_ge X (a := i30) (b := 12) (tgt := 248) (by omega) (by omega) dX7_month_233 (by decide) (fun h43 => absurd h43 (by omega)) (fun h43 => ?_)
                    refine g_aload_n X 0 dX7_month_236 rfl rfl ?_
                    refine g_iload X 1 dX7_month_237 rfl ?_
                    obtain ⟨S44, eS44⟩ : ∃ z : St, z = raS C i30 S32 := ⟨_, rfl⟩
                    refine g_callV X (As := [.int (nI i30)]) (rest := []) (m_X7_warms l D cI cJ cZ h th C N S32 Qk24 K P19 Y28 i30 (by omega) (hD.ok (by omega))) kM_X7_178 kI_yX7_warms kS_yX7_warms kZ_RX7 kC_yX7_warms hV_X7_warms rfl rfl rfl 0 rfl (ci := 7) rfl ⟨Nat.le_of_ble_eq_true rfl, Nat.le_of_ble_eq_true rfl⟩ ⟨Nat.le_of_ble_eq_true rfl, Nat.le_of_ble_eq_true rfl⟩ (Nat.le_of_ble_eq_true rfl) dX7_month_239 rfl [0, 1, 2, 3, 4, 5, 6, 7, 8, 9, 10, 11, 12, 13, 14, 15, 16] rfl rfl (g_kk1 (w2 := wM h cI cJ cZ th C N S44 Qk24 K P19 Y28) (by rw [eS44]; exact ⟨[0, 1, 2, 3, 4, 5, 6, 7, 8, 9, 10, 11, 12, 13, 14, 15, 16], [], [0, 1, 2, 3, 4, 5, 6, 7, 8, 9, 10, 11, 12, 13, 14, 15, 16], [], rfl, rfl, rfl, rfl, by decide, rfl, rfl⟩) ?_)
                    refine g_iinc X [(7, .int (nI (i30 + 1))), (0, .ref (h 0))] (q := 1) (v := nI (i30 + 1)) dX7_month_242 rfl ((congrArg (fun z => nI (i30) + z) (show Int32.ofInt 1 = nI 1 by decide +kernel)).trans ((nI_add _ _).trans (congrArg nI (by omega)))) (Nat.le_of_ble_eq_true rfl) rfl ?_
                    refine g_goto X (tgt := 229) dX7_month_245 (by decide) ?_
                    refine g_lv _ [1, 0] rfl ?_
                    exact ihL29 (i30 + 1) _ (by omega) (by (try rw [eS44]); (try rw [eS32]); first | done | (rfl))
                refine g_lv _ [1, 0] rfl ?_
                exact L29 (12) 0 _ (by omega) (by first | rfl | ((try rw [eY28]); (try rw [eS27]); (try rw [eQk24]); (try rw [eS23]); (try rw [eP19]); (try rw [eS18]); (try rw [eS17]); (try rw [ev12]); (try rw [ea8]); (try rw [ea7]); (try rw [eS2]); (try rw [eS1]); first | done | rfl))
              | succ n22 ihL20 =>
                intro i21 S23 Qk24 hi25 eS23 eQk24
                have hlti21 : i21 < 12 := by omega
                have hs := shk_q M4 hq4 i21 (by omega)
                rw [← eS23] at hs
                have hq2 := hq4.2
                have hs2 := hs.2
                refine g_iload X 1 dX7_month_203 rfl ?_
                refine g_bipush X (v := nI 12) dX7_month_205 (by decide +kernel) ?_
                refine g_icN_ge X (a := i21) (b := 12) (tgt := 222) (by omega) (by omega) dX7_month_207 (by decide) (fun h45 => absurd h45 (by omega)) (fun h45 => ?_)
                refine g_aload_n X 0 dX7_month_210 rfl rfl ?_
                refine g_iload X 1 dX7_month_211 rfl ?_
                obtain ⟨S46, eS46⟩ : ∃ z : St, z = shS i21 S23 := ⟨_, rfl⟩
                obtain ⟨Qk47, eQk47⟩ : ∃ z : Nat → Int64, z = if S23 3 i21 ≤ 3000 then Qk24 else addQ S23 Qk24 i21 (S23 3 i21 / 1000) := ⟨_, rfl⟩
                refine g_callV X (As := [.int (nI i21)]) (rest := []) (m_X7_quakes l D cI cJ cZ h th C N S23 Qk24 K P19 Y i21 (by omega) ⟨hs.1, by omega⟩) kM_X7_171 kI_yX7_quakes kS_yX7_quakes kZ_RX7 kC_yX7_quakes hV_X7_quakes rfl rfl rfl 0 rfl (ci := 7) rfl ⟨Nat.le_of_ble_eq_true rfl, Nat.le_of_ble_eq_true rfl⟩ ⟨Nat.le_of_ble_eq_true rfl, Nat.le_of_ble_eq_true rfl⟩ (Nat.le_of_ble_eq_true rfl) dX7_month_213 rfl [0, 1, 2, 3, 4, 5, 6, 7, 8, 9, 10, 11, 12, 13, 14, 15, 16] rfl rfl (g_kk1 (w2 := wM h cI cJ cZ th C N S46 Qk47 K P19 Y) (by rw [eQk47]; rw [eS46]; exact ⟨[0, 1, 2, 3, 4, 5, 6, 7, 8, 9, 10, 11, 12, 13, 14, 15, 16], [], [0, 1, 2, 3, 4, 5, 6, 7, 8, 9, 10, 11, 12, 13, 14, 15, 16], [], rfl, rfl, rfl, rfl, by decide, rfl, rfl⟩) ?_)
                refine g_iinc X [(7, .int (nI (i21 + 1))), (0, .ref (h 0))] (q := 1) (v := nI (i21 + 1)) dX7_month_216 rfl ((congrArg (fun z => nI (i21) + z) (show Int32.ofInt 1 = nI 1 by decide +kernel)).trans ((nI_add _ _).trans (congrArg nI (by omega)))) (Nat.le_of_ble_eq_true rfl) rfl ?_
                refine g_goto X (tgt := 203) dX7_month_219 (by decide) ?_
                refine g_lv _ [1, 0] rfl ?_
                exact ihL20 (i21 + 1) _ _ (by omega) (by (try rw [eQk47]); (try rw [eS46]); (try rw [eQk24]); (try rw [eS23]); first | done | (rfl)) (by (try rw [eQk47]); (try rw [eS46]); (try rw [eQk24]); (try rw [eS23]); first | done | (rfl))
            refine g_lv _ [1, 0] rfl ?_
            exact L20 (12) 0 _ _ (by omega) (by first | rfl | ((try rw [eP19]); (try rw [eS18]); (try rw [eS17]); (try rw [ev12]); (try rw [ea8]); (try rw [ea7]); (try rw [eS2]); (try rw [eS1]); first | done | rfl)) (by first | rfl | ((try rw [eP19]); (try rw [eS18]); (try rw [eS17]); (try rw [ev12]); (try rw [ea8]); (try rw [ea7]); (try rw [eS2]); (try rw [eS1]); first | done | rfl))
          refine g_icN_ge X (a := 0) (b := N 1) (tgt := 193) (by omega) (by omega) dX7_month_127 (by decide) (fun h14 => ?_) (fun h14 => ?_)
          · --
            refine g_lv _ [2, 3, 1] rfl ?_
            exact J16
          · --
            refine g_lload_n X 3 dX7_month_130 rfl rfl ?_
            refine g_lconst X (v := 0) dX7_month_131 (by decide +kernel) ?_
            refine g_lj_le X (tgt := 193) (pc1 := 133) dX7_month_132 rfl dX7_month_133 (by decide) (fun h15 => ?_) (fun h15 => absurd (by rw [ea7]; exact hx) h15)
            refine g_lv _ [2, 3, 1] rfl ?_
            exact J16
        · --
          refine g_iconst X (v := nI 0) dX7_month_118 (by decide +kernel) ?_
          refine g_istore X [(7, .int (nI 0)), (5, .long v12), (0, .ref (h 0)), (1, .long a7)] dX7_month_119 (Nat.le_of_ble_eq_true rfl) rfl ?_
          have L48 : ∀ (n50 i49 : Nat) (S51 : St) (a52 : Int64), i49 + n50 = (N 1) → S51 = u2 M2 12 5 (selP C BR BH (M2 12 5) i49).2 → a52 = (selP C BR BH (M2 12 5) i49).1 → g_G p l e rm_X7_month s m args below meth c D A 10 0 0 Q (wM h cI cJ cZ th C N S51 Qk K P Y) [(0, .ref (h 0)), (1, .long a7), (5, .long a52), (7, .int (nI i49))] 121 [] := by
            intro n50
            induction n50 with
            | zero =>
              intro i49 S51 a52 hi53 eS51 ea52
              obtain rfl : i49 = (N 1) := by omega
              refine g_iload X 3 dX7_month_121 rfl ?_
              refine g_aload_n X 0 dX7_month_123 rfl rfl ?_
              refine g_get X (C := RX7) (T := TX7) (N := 21) (v := .int (nI (N 1))) inlX7 0 rfl rfl 11 (Nat.le_of_ble_eq_true rfl) kF_X7_104 rfl dX7_month_124 ?_
              refine g_icN_ge X (a := (N 1)) (b := N 1) (tgt := 193) (by omega) (by omega) dX7_month_127 (by decide) (fun h54 => ?_) (fun h54 => absurd h54 (by omega))
              replace ea52 : a52 = SL.1 := by (try rw [ea52]); (try rw [eS51]); (try rw [ev12]); (try rw [ea8]); (try rw [ea7]); (try rw [eS6]); (try rw [eS2]); (try rw [eS1]); rw [hSLp]; first | done | rfl
              obtain ⟨S55, eS55⟩ : ∃ z : St, z = M3 := ⟨_, rfl⟩
              have eq_S55 : S51 = S55 := by rw [eS55, hM3p, hSLp]; (try rw [ea52]); (try rw [eS51]); (try rw [ev12]); (try rw [ea8]); (try rw [ea7]); (try rw [eS6]); (try rw [eS2]); (try rw [eS1]); first | done | rfl
              rw [eq_S55]
              refine g_aload_n X 0 dX7_month_193 rfl rfl ?_
              refine g_lload_n X 1 dX7_month_194 rfl rfl ?_
              refine g_lload X 2 dX7_month_195 rfl ?_
              obtain ⟨S56, eS56⟩ : ∃ z : St, z = rtS C N S55 P a7 a52 := ⟨_, rfl⟩
              obtain ⟨P57, eP57⟩ : ∃ z : Nat → Int64, z = rtP C N S55 P a7 := ⟨_, rfl⟩
              refine g_callV X (As := [.long a7, .long a52]) (rest := []) (m_X7_returns l D cI cJ cZ h th C N S55 Qk K P Y a7 a52 hC) kM_X7_167 kI_yX7_returns kS_yX7_returns kZ_RX7 kC_yX7_returns hV_X7_returns rfl rfl rfl 0 rfl (ci := 7) rfl ⟨Nat.le_of_ble_eq_true rfl, Nat.le_of_ble_eq_true rfl⟩ ⟨Nat.le_of_ble_eq_true rfl, Nat.le_of_ble_eq_true rfl⟩ (Nat.le_of_ble_eq_true rfl) dX7_month_197 rfl [0, 1, 2, 3, 4, 5, 6, 7, 8, 9, 10, 11, 12, 13, 14, 15, 16] rfl rfl (g_kk1 (w2 := wM h cI cJ cZ th C N S56 Qk K P57 Y) (by rw [eP57]; rw [eS56]; exact ⟨[0, 1, 2, 3, 4, 5, 6, 7, 8, 9, 10, 11, 12, 13, 14, 15, 16], [], [0, 1, 2, 3, 4, 5, 6, 7, 8, 9, 10, 11, 12, 13, 14, 15, 16], [], rfl, rfl, rfl, rfl, by decide, rfl, rfl⟩) ?_)
              replace eS56 : S56 = M4 := by rw [eS56]; (try rw [eP57]); (try rw [eS55]); (try rw [ea52]); (try rw [ev12]); (try rw [ea8]); (try rw [ea7]); (try rw [eS6]); (try rw [eS2]); (try rw [eS1]); first | done | exact hrt
              replace eP57 : P57 = MP := by rw [eP57]; (try rw [eS56]); (try rw [eS55]); (try rw [ea52]); (try rw [ev12]); (try rw [ea8]); (try rw [ea7]); (try rw [eS6]); (try rw [eS2]); (try rw [eS1]); first | done | exact hMPp.symm
              refine g_iconst X (v := nI 0) dX7_month_200 (by decide +kernel) ?_
              refine g_istore X [(7, .int (nI 0)), (0, .ref (h 0)), (1, .long a7), (5, .long a52)] dX7_month_201 (Nat.le_of_ble_eq_true rfl) rfl ?_
              have L58 : ∀ (n60 i59 : Nat) (S61 : St) (Qk62 : Nat → Int64), i59 + n60 = 12 → S61 = itr shS M4 i59 → Qk62 = shQ M4 Qk i59 → g_G p l e rm_X7_month s m args below meth c D A 10 0 0 Q (wM h cI cJ cZ th C N S61 Qk62 K P57 Y) [(0, .ref (h 0)), (7, .int (nI i59))] 203 [] := by
                intro n60
                induction n60 with
                | zero =>
                  intro i59 S61 Qk62 hi63 eS61 eQk62
                  obtain rfl : i59 = 12 := by omega
                  refine g_iload X 1 dX7_month_203 rfl ?_
                  refine g_bipush X (v := nI 12) dX7_month_205 (by decide +kernel) ?_
                  refine g_icN_ge X (a := 12) (b := 12) (tgt := 222) (by omega) (by omega) dX7_month_207 (by decide) (fun h64 => ?_) (fun h64 => absurd h64 (by omega))
                  replace eS61 : S61 = M5 := by rw [eS61]; (try rw [eQk62]); (try rw [eP57]); (try rw [eS56]); (try rw [eS55]); (try rw [ea52]); (try rw [ev12]); (try rw [ea8]); (try rw [ea7]); (try rw [eS6]); (try rw [eS2]); (try rw [eS1]); first | done | exact hM5p.symm
                  replace eQk62 : Qk62 = MQ := by rw [eQk62]; (try rw [eS61]); (try rw [eP57]); (try rw [eS56]); (try rw [eS55]); (try rw [ea52]); (try rw [ev12]); (try rw [ea8]); (try rw [ea7]); (try rw [eS6]); (try rw [eS2]); (try rw [eS1]); first | done | exact hMQp.symm
                  refine g_aload_n X 0 dX7_month_222 rfl rfl ?_
                  obtain ⟨S65, eS65⟩ : ∃ z : St, z = crM C S61 Y := ⟨_, rfl⟩
                  obtain ⟨Y66, eY66⟩ : ∃ z : St, z = ckY C S61 Y := ⟨_, rfl⟩
                  refine g_callV X (As := []) (rest := []) (m_X7_cracks l D cI cJ cZ h th C N S61 Qk62 K P57 Y (by rw [eS61]; exact h5.ok (by omega))) kM_X7_175 kI_yX7_cracks kS_yX7_cracks kZ_RX7 kC_yX7_cracks hV_X7_cracks rfl rfl rfl 0 rfl (ci := 7) rfl ⟨Nat.le_of_ble_eq_true rfl, Nat.le_of_ble_eq_true rfl⟩ ⟨Nat.le_of_ble_eq_true rfl, Nat.le_of_ble_eq_true rfl⟩ (Nat.le_of_ble_eq_true rfl) dX7_month_223 rfl [0, 1, 2, 3, 4, 5, 6, 7, 8, 9, 10, 11, 12, 13, 14, 15, 16] rfl rfl (g_kk1 (w2 := wM h cI cJ cZ th C N S65 Qk62 K P57 Y66) (by rw [eY66]; rw [eS65]; exact ⟨[0, 1, 2, 3, 4, 5, 6, 7, 8, 9, 10, 11, 12, 13, 14, 15, 16], [], [0, 1, 2, 3, 4, 5, 6, 7, 8, 9, 10, 11, 12, 13, 14, 15, 16], [], rfl, rfl, rfl, rfl, by decide, rfl, rfl⟩) ?_)
                  replace eS65 : S65 = M6 := by rw [eS65]; (try rw [eY66]); (try rw [eQk62]); (try rw [eS61]); (try rw [eP57]); (try rw [eS56]); (try rw [eS55]); (try rw [ea52]); (try rw [ev12]); (try rw [ea8]); (try rw [ea7]); (try rw [eS6]); (try rw [eS2]); (try rw [eS1]); first | done | exact (crk_m _ _ _).trans hM6p.symm
                  replace eY66 : Y66 = MY := by rw [eY66]; (try rw [eS65]); (try rw [eQk62]); (try rw [eS61]); (try rw [eP57]); (try rw [eS56]); (try rw [eS55]); (try rw [ea52]); (try rw [ev12]); (try rw [ea8]); (try rw [ea7]); (try rw [eS6]); (try rw [eS2]); (try rw [eS1]); first | done | exact hMYp.symm
                  refine g_iconst X (v := nI 0) dX7_month_226 (by decide +kernel) ?_
                  refine g_istore X [(7, .int (nI 0)), (0, .ref (h 0))] dX7_month_227 (Nat.le_of_ble_eq_true rfl) rfl ?_
                  have L67 : ∀ (n69 i68 : Nat) (S70 : St), i68 + n69 = 12 → S70 = itr (raS C) M6 i68 → g_G p l e rm_X7_month s m args below meth c D A 10 0 0 Q (wM h cI cJ cZ th C N S70 Qk62 K P57 Y66) [(0, .ref (h 0)), (7, .int (nI i68))] 229 [] := by
                    intro n69
                    induction n69 with
                    | zero =>
                      intro i68 S70 hi71 eS70
                      obtain rfl : i68 = 12 := by omega
                      refine g_iload X 1 dX7_month_229 rfl ?_
                      refine g_bipush X (v := nI 12) dX7_month_231 (by decide +kernel) ?_
                      refine g_icN_ge X (a := 12) (b := 12) (tgt := 248) (by omega) (by omega) dX7_month_233 (by decide) (fun h72 => ?_) (fun h72 => absurd h72 (by omega))
                      replace eS70 : S70 = M7 := by rw [eS70]; (try rw [eY66]); (try rw [eS65]); (try rw [eQk62]); (try rw [eS61]); (try rw [eP57]); (try rw [eS56]); (try rw [eS55]); (try rw [ea52]); (try rw [ev12]); (try rw [ea8]); (try rw [ea7]); (try rw [eS6]); (try rw [eS2]); (try rw [eS1]); first | done | exact hM7p.symm
                      refine g_iconst X (v := nI 0) dX7_month_248 (by decide +kernel) ?_
                      refine g_istore X [(7, .int (nI 0)), (0, .ref (h 0))] dX7_month_249 (Nat.le_of_ble_eq_true rfl) rfl ?_
                      have L73 : ∀ (n75 i74 : Nat) (S76 : St), i74 + n75 = (N 2) → S76 = itr (feS C) M7 i74 → g_G p l e rm_X7_month s m args below meth c D A 10 0 0 Q (wM h cI cJ cZ th C N S76 Qk62 K P57 Y66) [(0, .ref (h 0)), (7, .int (nI i74))] 251 [] := by
                        intro n75
                        induction n75 with
                        | zero =>
                          intro i74 S76 hi77 eS76
                          obtain rfl : i74 = (N 2) := by omega
                          refine g_iload X 1 dX7_month_251 rfl ?_
                          refine g_aload_n X 0 dX7_month_253 rfl rfl ?_
                          refine g_get X (C := RX7) (T := TX7) (N := 21) (v := .int (nI (N 2))) inlX7 0 rfl rfl 14 (Nat.le_of_ble_eq_true rfl) kF_X7_75 rfl dX7_month_254 ?_
                          refine g_icN_ge X (a := (N 2)) (b := N 2) (tgt := 272) (by omega) (by omega) dX7_month_257 (by decide) (fun h78 => ?_) (fun h78 => absurd h78 (by omega))
                          replace eS76 : S76 = MS := by rw [eS76]; (try rw [eS70]); (try rw [eY66]); (try rw [eS65]); (try rw [eQk62]); (try rw [eS61]); (try rw [eP57]); (try rw [eS56]); (try rw [eS55]); (try rw [ea52]); (try rw [ev12]); (try rw [ea8]); (try rw [ea7]); (try rw [eS6]); (try rw [eS2]); (try rw [eS1]); first | done | exact hMSp.symm
                          refine g_vret X hr hlk hQ dX7_month_272 ?_
                          show g_eq _ _ _ _
                          try rw [eS76]
                          try rw [eS70]
                          try rw [eY66]
                          try rw [eS65]
                          try rw [eQk62]
                          try rw [eS61]
                          try rw [eP57]
                          try rw [eS56]
                          try rw [eS55]
                          try rw [ea52]
                          try rw [ev12]
                          try rw [ea8]
                          try rw [ea7]
                          try rw [eS6]
                          try rw [eS2]
                          try rw [eS1]
                          rw [← hMS, ← hMQ, ← hMP, ← hMY]
                          exact ⟨rfl, rfl⟩
                        | succ n75 ihL73 =>
                          intro i74 S76 hi77 eS76
                          have hlti74 : i74 < (N 2) := by omega
                          have hD := (fe_ok C N M7 (k + 100000000 + 500) hC h7 (by omega) i74 (by omega)).ok (show k + 100000000 + 500 ≤ 1099511627776 by omega)
                          rw [← eS76] at hD
                          refine g_iload X 1 dX7_month_251 rfl ?_
                          refine g_aload_n X 0 dX7_month_253 rfl rfl ?_
                          refine g_get X (C := RX7) (T := TX7) (N := 21) (v := .int (nI (N 2))) inlX7 0 rfl rfl 14 (Nat.le_of_ble_eq_true rfl) kF_X7_75 rfl dX7_month_254 ?_
                          refine g_icN_ge X (a := i74) (b := N 2) (tgt := 272) (by omega) (by omega) dX7_month_257 (by decide) (fun h79 => absurd h79 (by omega)) (fun h79 => ?_)
                          refine g_aload_n X 0 dX7_month_260 rfl rfl ?_
                          refine g_iload X 1 dX7_month_261 rfl ?_
                          obtain ⟨S80, eS80⟩ : ∃ z : St, z = feS C i74 S76 := ⟨_, rfl⟩
                          refine g_callV X (As := [.int (nI i74)]) (rest := []) (m_X7_springs l D cI cJ cZ h th C N S76 Qk62 K P57 Y66 i74 hC hD (by omega)) kM_X7_181 kI_yX7_springs kS_yX7_springs kZ_RX7 kC_yX7_springs hV_X7_springs rfl rfl rfl 0 rfl (ci := 7) rfl ⟨Nat.le_of_ble_eq_true rfl, Nat.le_of_ble_eq_true rfl⟩ ⟨Nat.le_of_ble_eq_true rfl, Nat.le_of_ble_eq_true rfl⟩ (Nat.le_of_ble_eq_true rfl) dX7_month_263 rfl [0, 1, 2, 3, 4, 5, 6, 7, 8, 9, 10, 11, 12, 13, 14, 15, 16] rfl rfl (g_kk1 (w2 := wM h cI cJ cZ th C N S80 Qk62 K P57 Y66) (by rw [eS80]; exact ⟨[0, 1, 2, 3, 4, 5, 6, 7, 8, 9, 10, 11, 12, 13, 14, 15, 16], [], [0, 1, 2, 3, 4, 5, 6, 7, 8, 9, 10, 11, 12, 13, 14, 15, 16], [], rfl, rfl, rfl, rfl, by decide, rfl, rfl⟩) ?_)
                          refine g_iinc X [(7, .int (nI (i74 + 1))), (0, .ref (h 0))] (q := 1) (v := nI (i74 + 1)) dX7_month_266 rfl ((congrArg (fun z => nI (i74) + z) (show Int32.ofInt 1 = nI 1 by decide +kernel)).trans ((nI_add _ _).trans (congrArg nI (by omega)))) (Nat.le_of_ble_eq_true rfl) rfl ?_
                          refine g_goto X (tgt := 251) dX7_month_269 (by decide) ?_
                          refine g_lv _ [1, 0] rfl ?_
                          exact ihL73 (i74 + 1) _ (by omega) (by (try rw [eS80]); (try rw [eS76]); first | done | (rfl))
                      refine g_lv _ [1, 0] rfl ?_
                      exact L73 ((N 2)) 0 _ (by omega) (by first | rfl | ((try rw [eS70]); (try rw [eY66]); (try rw [eS65]); (try rw [eQk62]); (try rw [eS61]); (try rw [eP57]); (try rw [eS56]); (try rw [eS55]); (try rw [ea52]); (try rw [ev12]); (try rw [ea8]); (try rw [ea7]); (try rw [eS6]); (try rw [eS2]); (try rw [eS1]); first | done | rfl))
                    | succ n69 ihL67 =>
                      intro i68 S70 hi71 eS70
                      have hlti68 : i68 < 12 := by omega
                      have hD := (ra_ok C M6 (k + 100000000) hR h6 (by omega) (by omega) i68 (by omega)).2 hlti68
                      rw [← eS70] at hD
                      refine g_iload X 1 dX7_month_229 rfl ?_
                      refine g_bipush X (v := nI 12) dX7_month_231 (by decide +kernel) ?_
                      refine g_icN_ge X (a := i68) (b := 12) (tgt := 248) (by omega) (by omega) dX7_month_233 (by decide) (fun h81 => absurd h81 (by omega)) (fun h81 => ?_)
                      refine g_aload_n X 0 dX7_month_236 rfl rfl ?_
                      refine g_iload X 1 dX7_month_237 rfl ?_
                      obtain ⟨S82, eS82⟩ : ∃ z : St, z = raS C i68 S70 := ⟨_, rfl⟩
                      refine g_callV X (As := [.int (nI i68)]) (rest := []) (m_X7_warms l D cI cJ cZ h th C N S70 Qk62 K P57 Y66 i68 (by omega) (hD.ok (by omega))) kM_X7_178 kI_yX7_warms kS_yX7_warms kZ_RX7 kC_yX7_warms hV_X7_warms rfl rfl rfl 0 rfl (ci := 7) rfl ⟨Nat.le_of_ble_eq_true rfl, Nat.le_of_ble_eq_true rfl⟩ ⟨Nat.le_of_ble_eq_true rfl, Nat.le_of_ble_eq_true rfl⟩ (Nat.le_of_ble_eq_true rfl) dX7_month_239 rfl [0, 1, 2, 3, 4, 5, 6, 7, 8, 9, 10, 11, 12, 13, 14, 15, 16] rfl rfl (g_kk1 (w2 := wM h cI cJ cZ th C N S82 Qk62 K P57 Y66) (by rw [eS82]; exact ⟨[0, 1, 2, 3, 4, 5, 6, 7, 8, 9, 10, 11, 12, 13, 14, 15, 16], [], [0, 1, 2, 3, 4, 5, 6, 7, 8, 9, 10, 11, 12, 13, 14, 15, 16], [], rfl, rfl, rfl, rfl, by decide, rfl, rfl⟩) ?_)
                      refine g_iinc X [(7, .int (nI (i68 + 1))), (0, .ref (h 0))] (q := 1) (v := nI (i68 + 1)) dX7_month_242 rfl ((congrArg (fun z => nI (i68) + z) (show Int32.ofInt 1 = nI 1 by decide +kernel)).trans ((nI_add _ _).trans (congrArg nI (by omega)))) (Nat.le_of_ble_eq_true rfl) rfl ?_
                      refine g_goto X (tgt := 229) dX7_month_245 (by decide) ?_
                      refine g_lv _ [1, 0] rfl ?_
                      exact ihL67 (i68 + 1) _ (by omega) (by (try rw [eS82]); (try rw [eS70]); first | done | (rfl))
                  refine g_lv _ [1, 0] rfl ?_
                  exact L67 (12) 0 _ (by omega) (by first | rfl | ((try rw [eY66]); (try rw [eS65]); (try rw [eQk62]); (try rw [eS61]); (try rw [eP57]); (try rw [eS56]); (try rw [eS55]); (try rw [ea52]); (try rw [ev12]); (try rw [ea8]); (try rw [ea7]); (try rw [eS6]); (try rw [eS2]); (try rw [eS1]); first | done | rfl))
                | succ n60 ihL58 =>
                  intro i59 S61 Qk62 hi63 eS61 eQk62
                  have hlti59 : i59 < 12 := by omega
                  have hs := shk_q M4 hq4 i59 (by omega)
                  rw [← eS61] at hs
                  have hq2 := hq4.2
                  have hs2 := hs.2
                  refine g_iload X 1 dX7_month_203 rfl ?_
                  refine g_bipush X (v := nI 12) dX7_month_205 (by decide +kernel) ?_
                  refine g_icN_ge X (a := i59) (b := 12) (tgt := 222) (by omega) (by omega) dX7_month_207 (by decide) (fun h83 => absurd h83 (by omega)) (fun h83 => ?_)
                  refine g_aload_n X 0 dX7_month_210 rfl rfl ?_
                  refine g_iload X 1 dX7_month_211 rfl ?_
                  obtain ⟨S84, eS84⟩ : ∃ z : St, z = shS i59 S61 := ⟨_, rfl⟩
                  obtain ⟨Qk85, eQk85⟩ : ∃ z : Nat → Int64, z = if S61 3 i59 ≤ 3000 then Qk62 else addQ S61 Qk62 i59 (S61 3 i59 / 1000) := ⟨_, rfl⟩
                  refine g_callV X (As := [.int (nI i59)]) (rest := []) (m_X7_quakes l D cI cJ cZ h th C N S61 Qk62 K P57 Y i59 (by omega) ⟨hs.1, by omega⟩) kM_X7_171 kI_yX7_quakes kS_yX7_quakes kZ_RX7 kC_yX7_quakes hV_X7_quakes rfl rfl rfl 0 rfl (ci := 7) rfl ⟨Nat.le_of_ble_eq_true rfl, Nat.le_of_ble_eq_true rfl⟩ ⟨Nat.le_of_ble_eq_true rfl, Nat.le_of_ble_eq_true rfl⟩ (Nat.le_of_ble_eq_true rfl) dX7_month_213 rfl [0, 1, 2, 3, 4, 5, 6, 7, 8, 9, 10, 11, 12, 13, 14, 15, 16] rfl rfl (g_kk1 (w2 := wM h cI cJ cZ th C N S84 Qk85 K P57 Y) (by rw [eQk85]; rw [eS84]; exact ⟨[0, 1, 2, 3, 4, 5, 6, 7, 8, 9, 10, 11, 12, 13, 14, 15, 16], [], [0, 1, 2, 3, 4, 5, 6, 7, 8, 9, 10, 11, 12, 13, 14, 15, 16], [], rfl, rfl, rfl, rfl, by decide, rfl, rfl⟩) ?_)
                  refine g_iinc X [(7, .int (nI (i59 + 1))), (0, .ref (h 0))] (q := 1) (v := nI (i59 + 1)) dX7_month_216 rfl ((congrArg (fun z => nI (i59) + z) (show Int32.ofInt 1 = nI 1 by decide +kernel)).trans ((nI_add _ _).trans (congrArg nI (by omega)))) (Nat.le_of_ble_eq_true rfl) rfl ?_
                  refine g_goto X (tgt := 203) dX7_month_219 (by decide) ?_
                  refine g_lv _ [1, 0] rfl ?_
                  exact ihL58 (i59 + 1) _ _ (by omega) (by (try rw [eQk85]); (try rw [eS84]); (try rw [eQk62]); (try rw [eS61]); first | done | (rfl)) (by (try rw [eQk85]); (try rw [eS84]); (try rw [eQk62]); (try rw [eS61]); first | done | (rfl))
              refine g_lv _ [1, 0] rfl ?_
              exact L58 (12) 0 _ _ (by omega) (by first | rfl | ((try rw [eP57]); (try rw [eS56]); (try rw [eS55]); (try rw [ea52]); (try rw [ev12]); (try rw [ea8]); (try rw [ea7]); (try rw [eS6]); (try rw [eS2]); (try rw [eS1]); first | done | rfl)) (by first | rfl | ((try rw [eP57]); (try rw [eS56]); (try rw [eS55]); (try rw [ea52]); (try rw [ev12]); (try rw [ea8]); (try rw [ea7]); (try rw [eS6]); (try rw [eS2]); (try rw [eS1]); first | done | rfl))
            | succ n50 ihL48 =>
              intro i49 S51 a52 hi53 eS51 ea52
              have hlti49 : i49 < (N 1) := by omega
              refine g_iload X 3 dX7_month_121 rfl ?_
              refine g_aload_n X 0 dX7_month_123 rfl rfl ?_
              refine g_get X (C := RX7) (T := TX7) (N := 21) (v := .int (nI (N 1))) inlX7 0 rfl rfl 11 (Nat.le_of_ble_eq_true rfl) kF_X7_104 rfl dX7_month_124 ?_
              refine g_icN_ge X (a := i49) (b := N 1) (tgt := 193) (by omega) (by omega) dX7_month_127 (by decide) (fun h86 => absurd h86 (by omega)) (fun h86 => ?_)
              refine g_lload_n X 1 dX7_month_130 rfl rfl ?_
              refine g_lconst X (v := 0) dX7_month_131 (by decide +kernel) ?_
              refine g_lj_le X (tgt := 193) (pc1 := 133) dX7_month_132 rfl dX7_month_133 (by decide) (fun h87 => absurd (by rw [← ea7]; exact h87) hx) (fun h87 => ?_)
              refine g_lload X 2 dX7_month_136 rfl ?_
              refine g_aload_n X 0 dX7_month_138 rfl rfl ?_
              refine g_get X (C := RX7) (T := TX7) (N := 21) (v := .ref (h 9)) inlX7 0 rfl rfl 12 (Nat.le_of_ble_eq_true rfl) kF_X7_36 rfl dX7_month_139 ?_
              refine g_iload X 3 dX7_month_142 rfl ?_
              refine g_iald X 9 rfl (i49) rfl (by omega) (Nat.le_of_ble_eq_true rfl) (v := C 5 i49) rfl dX7_month_144 ?_
              refine g_i2l X (v := (C 5 i49).toInt64) dX7_month_145 rfl ?_
              have J92 : ∀ (S90 : St) (v91 : Int64), S90 = (if a52 < ((C 5 i49).toInt64) then S51 else (u2 S51 12 5 ((S51 12 5) + ((if a52 < ((C 6 i49).toInt64) then a52 else (C 6 i49).toInt64) * a7)))) → v91 = (if a52 < ((C 5 i49).toInt64) then a52 else a52 - (if a52 < ((C 6 i49).toInt64) then a52 else (C 6 i49).toInt64)) → g_G p l e rm_X7_month s m args below meth c D A 10 0 0 Q (wM h cI cJ cZ th C N S90 Qk K P Y) [(0, .ref (h 0)), (1, .long a7), (5, .long v91), (7, .int (nI i49))] 187 [] := by
                intro S90 v91 eS90 ev91
                refine g_iinc X [(7, .int (nI (i49 + 1))), (0, .ref (h 0)), (1, .long a7), (5, .long v91)] (q := 3) (v := nI (i49 + 1)) dX7_month_187 rfl ((congrArg (fun z => nI (i49) + z) (show Int32.ofInt 1 = nI 1 by decide +kernel)).trans ((nI_add _ _).trans (congrArg nI (by omega)))) (Nat.le_of_ble_eq_true rfl) rfl ?_
                refine g_goto X (tgt := 121) dX7_month_190 (by decide) ?_
                refine g_lv _ [1, 2, 3, 0] rfl ?_
                exact ihL48 (i49 + 1) _ _ (by omega) (by (try rw [ev91]); (try rw [eS90]); (try rw [ea52]); (try rw [eS51]); first | done | (rw [selP_s, if_neg hx, apply_ite Prod.snd, ← ea7]; exact se_m _ _ _ _)) (by (try rw [ev91]); (try rw [eS90]); (try rw [ea52]); (try rw [eS51]); first | done | (rw [selP_s, if_neg hx, apply_ite Prod.fst] <;> rfl))
              refine g_lj_lt X (tgt := 187) (pc1 := 147) dX7_month_146 rfl dX7_month_147 (by decide) (fun h88 => ?_) (fun h88 => ?_)
              · --
                exact J92 _ _ (by rw [if_pos (c := a52 < ((C 5 i49).toInt64)) h88]) (by rw [if_pos (c := a52 < ((C 5 i49).toInt64)) h88])
              · --
                refine g_aload_n X 0 dX7_month_150 rfl rfl ?_
                refine g_get X (C := RX7) (T := TX7) (N := 21) (v := .ref (h 10)) inlX7 0 rfl rfl 13 (Nat.le_of_ble_eq_true rfl) kF_X7_39 rfl dX7_month_151 ?_
                refine g_iload X 3 dX7_month_154 rfl ?_
                refine g_iald X 10 rfl (i49) rfl (by omega) (Nat.le_of_ble_eq_true rfl) (v := C 6 i49) rfl dX7_month_156 ?_
                refine g_i2l X (v := (C 6 i49).toInt64) dX7_month_157 rfl ?_
                refine g_lload X 2 dX7_month_158 rfl ?_
                refine g_callS X (As := [.long ((C 6 i49).toInt64), .long a52]) (rest := []) (m_X7_lesser l D cI cJ cZ ((C 6 i49).toInt64) a52 ) kM_X7_129 kT_yX7_lesser kZ_RX7 kC_yX7_lesser hV_X7_lesser rfl rfl rfl ⟨Nat.le_of_ble_eq_true rfl, Nat.le_of_ble_eq_true rfl⟩ ⟨Nat.le_of_ble_eq_true rfl, Nat.le_of_ble_eq_true rfl⟩ (Nat.le_of_ble_eq_true rfl) dX7_month_160 rfl [] rfl rfl (g_kk1 (w2 := wM h cI cJ cZ th C N S51 Qk K P Y) ⟨[], [0, 1, 2, 3, 4, 5, 6, 7, 8, 9, 10, 11, 12, 13, 14, 15, 16], [0, 1, 2, 3, 4, 5, 6, 7, 8, 9, 10, 11, 12, 13, 14, 15, 16], ([0, 1, 2, 3, 4, 5, 6, 7, 8, 9, 10, 11, 12, 13, 14, 15, 16].filterMap fun i => (wM h cI cJ cZ th C N S51 Qk K P Y)[i]?), rfl, rfl, rfl, rfl, by decide, rfl, rfl⟩ ?_)
                refine g_lstore X [(8, .long (if a52 < ((C 6 i49).toInt64) then a52 else (C 6 i49).toInt64)), (0, .ref (h 0)), (1, .long a7), (5, .long a52), (7, .int (nI i49))] dX7_month_163 (Nat.le_of_ble_eq_true rfl) rfl ?_
                refine g_aload_n X 1 dX7_month_165 rfl rfl ?_
                refine g_get X (C := RX7) (T := TX7) (N := 21) (v := .ref (h 1)) inlX7 0 rfl rfl 1 (Nat.le_of_ble_eq_true rfl) kF_X7_7 rfl dX7_month_166 ?_
                refine g_sipush X (v := nI 151) dX7_month_169 (by decide +kernel) ?_
                refine g_dup2_11 X dX7_month_172 rfl rfl ?_
                refine g_lald X 1 rfl (146 + 5) (congrArg nI (show 151 = 146 + 5 by omega)) (by omega) (Nat.le_of_ble_eq_true rfl) (v := S51 12 5) (fl_12 _ _ (i := 5) (by omega)) dX7_month_173 ?_
                refine g_lload X 0 dX7_month_174 rfl ?_
                refine g_lload_n X 2 dX7_month_176 rfl rfl ?_
                refine g_lmul X (v := (if a52 < ((C 6 i49).toInt64) then a52 else (C 6 i49).toInt64) * a7) dX7_month_177 rfl ?_
                refine g_ladd X (v := (S51 12 5) + ((if a52 < ((C 6 i49).toInt64) then a52 else (C 6 i49).toInt64) * a7)) dX7_month_178 rfl ?_
                obtain ⟨S89, eS89⟩ : ∃ z : St, z = u2 S51 12 5 ((S51 12 5) + ((if a52 < ((C 6 i49).toInt64) then a52 else (C 6 i49).toInt64) * a7)) := ⟨_, rfl⟩
                refine g_last X (ws' := wM h cI cJ cZ th C N S89 Qk K P Y) 1 rfl (146 + 5) (congrArg nI (show 151 = 146 + 5 by omega)) (by omega) (Nat.le_of_ble_eq_true rfl) dX7_month_179 (by rw [eS89]; first | done | (rw [flu_12 _ _ (i := 5) _ (by omega)]; rfl)) ?_
                refine g_lload X 3 dX7_month_180 rfl ?_
                refine g_lload X 0 dX7_month_182 rfl ?_
                refine g_lsub X (v := a52 - (if a52 < ((C 6 i49).toInt64) then a52 else (C 6 i49).toInt64)) dX7_month_184 rfl ?_
                refine g_lstore X [(5, .long (a52 - (if a52 < ((C 6 i49).toInt64) then a52 else (C 6 i49).toInt64))), (8, .long (if a52 < ((C 6 i49).toInt64) then a52 else (C 6 i49).toInt64)), (0, .ref (h 0)), (1, .long a7), (7, .int (nI i49))] dX7_month_185 (Nat.le_of_ble_eq_true rfl) rfl ?_
                refine g_lv _ [2, 3, 0, 4] rfl ?_
                exact J92 _ _ (by (try rw [eS89]); rw [if_neg (c := a52 < ((C 5 i49).toInt64)) h88]) (by (try rw [eS89]); rw [if_neg (c := a52 < ((C 5 i49).toInt64)) h88])
          refine g_lv _ [2, 3, 1, 0] rfl ?_
          exact L48 ((N 1)) 0 _ _ (by omega) ((by assumption : _ = M2).trans (u2_self _ _ _).symm) (by first | rfl | ((try rw [ev12]); (try rw [ea8]); (try rw [ea7]); (try rw [eS6]); (try rw [eS2]); (try rw [eS1]); first | done | rfl))
      refine g_lj_le X (tgt := 115) (pc1 := 106) dX7_month_105 rfl dX7_month_106 (by decide) (fun h11 => ?_) (fun h11 => ?_)
      · --
        refine g_lconst X (v := 0) dX7_month_115 (by decide +kernel) ?_
        refine g_lv _ [0, 1] rfl ?_
        exact J13 _ (by rw [if_pos (c := a7 ≤ (0 : Int64)) h11])
      · --
        refine g_lload_n X 2 dX7_month_109 rfl rfl ?_
        refine g_lload_n X 1 dX7_month_110 rfl rfl ?_
        refine g_ldiv X (v := a8 / a7) dX7_month_111 (ne_le0 (by assumption)) rfl ?_
        refine g_goto X (tgt := 116) dX7_month_112 (by decide) ?_
        refine g_lv _ [0, 1] rfl ?_
        exact J13 _ (by rw [if_neg (c := a7 ≤ (0 : Int64)) h11])
    | succ n5 ihL3 =>
      intro i4 S6 a7 a8 hi9 eS6 ea7 ea8
      have hlti4 : i4 < (N 0) := by omega
      have hD := dw_ok C N M1 k hC h1.1 (by omega) h1.2 i4 (by omega)
      have hB6 := hd6 i4 (by omega) i4 hlti4
      rw [← eS6] at hD hB6
      have hpl := (hC.pl hlti4).2
      have hWk := hD.1.ok (show k ≤ 1099511627776 by omega)
      refine g_iload X 3 dX7_month_23 rfl ?_
      refine g_aload_n X 0 dX7_month_25 rfl rfl ?_
      refine g_get X (C := RX7) (T := TX7) (N := 21) (v := .int (nI (N 0))) inlX7 0 rfl rfl 6 (Nat.le_of_ble_eq_true rfl) kF_X7_72 rfl dX7_month_26 ?_
      refine g_icN_ge X (a := i4) (b := N 0) (tgt := 103) (by omega) (by omega) dX7_month_29 (by decide) (fun h93 => absurd h93 (by omega)) (fun h93 => ?_)
      refine g_aload_n X 0 dX7_month_32 rfl rfl ?_
      refine g_get X (C := RX7) (T := TX7) (N := 21) (v := .ref (h 6)) inlX7 0 rfl rfl 8 (Nat.le_of_ble_eq_true rfl) kF_X7_26 rfl dX7_month_33 ?_
      refine g_iload X 3 dX7_month_36 rfl ?_
      refine g_zald X 6 rfl (i4) rfl (by omega) (Nat.le_of_ble_eq_true rfl) (v := C 3 i4) rfl dX7_month_38 ?_
      have J100 : ∀ (S97 : St) (v98 : Int64) (v99 : Int64), S97 = (if ¬ (C 3 i4) = 0 then S6 else if ¬ (S6 6 i4) = (0 : Int64) then S6 else (drawS C N S6 i4)) → v98 = (if ¬ (C 3 i4) = 0 then a7 else if ¬ (S6 6 i4) = (0 : Int64) then a7 else a7 + (brW C S6 i4)) → v99 = (if ¬ (C 3 i4) = 0 then a8 else if ¬ (S6 6 i4) = (0 : Int64) then a8 else a8 + ((brW C S6 i4) * (if (100 : Int64) < (deg S6 (plN C i4)) then (100 : Int64) else deg S6 (plN C i4)))) → g_G p l e rm_X7_month s m args below meth c D A 10 0 0 Q (wM h cI cJ cZ th C N S97 Qk K P Y) [(0, .ref (h 0)), (1, .long v98), (3, .long v99), (5, .int (nI i4))] 97 [] := by
        intro S97 v98 v99 eS97 ev98 ev99
        replace eS97 := eS97.trans (dw_if hB6 _ _)
        replace ev98 := ev98.trans (dw_if hB6 _ _)
        replace ev99 := ev99.trans (dw_if hB6 _ _)
        refine g_iinc X [(5, .int (nI (i4 + 1))), (0, .ref (h 0)), (1, .long v98), (3, .long v99)] (q := 3) (v := nI (i4 + 1)) dX7_month_97 rfl ((congrArg (fun z => nI (i4) + z) (show Int32.ofInt 1 = nI 1 by decide +kernel)).trans ((nI_add _ _).trans (congrArg nI (by omega)))) (Nat.le_of_ble_eq_true rfl) rfl ?_
        refine g_goto X (tgt := 23) dX7_month_100 (by decide) ?_
        refine g_lv _ [1, 2, 3, 0] rfl ?_
        exact ihL3 (i4 + 1) _ _ _ (by omega) (by (try rw [ev99]); (try rw [ev98]); (try rw [eS97]); (try rw [ea8]); (try rw [ea7]); (try rw [eS6]); first | done | (rfl)) (by (try rw [ev99]); (try rw [ev98]); (try rw [eS97]); (try rw [ea8]); (try rw [ea7]); (try rw [eS6]); first | done | (rfl)) (by (try rw [ev99]); (try rw [ev98]); (try rw [eS97]); (try rw [ea8]); (try rw [ea7]); (try rw [eS6]); first | done | (rfl))
      refine g_if_ne X (tgt := 97) dX7_month_39 (by decide) (fun h94 => ?_) (fun h94 => ?_)
      · --
        exact J100 _ _ _ (by rw [if_pos (c := ¬ (C 3 i4) = 0) h94]) (by rw [if_pos (c := ¬ (C 3 i4) = 0) h94]) (by rw [if_pos (c := ¬ (C 3 i4) = 0) h94])
      · --
        refine g_aload_n X 0 dX7_month_42 rfl rfl ?_
        refine g_get X (C := RX7) (T := TX7) (N := 21) (v := .ref (h 1)) inlX7 0 rfl rfl 1 (Nat.le_of_ble_eq_true rfl) kF_X7_7 rfl dX7_month_43 ?_
        refine g_bipush X (v := nI 68) dX7_month_46 (by decide +kernel) ?_
        refine g_iload X 3 dX7_month_48 rfl ?_
        refine g_iadd X (v := nI (i4 + 68)) dX7_month_50 ((nI_add _ _).trans (congrArg nI (by omega))) ?_
        refine g_lald X 1 rfl (68 + i4) (congrArg nI (show i4 + 68 = 68 + i4 by omega)) (by omega) (Nat.le_of_ble_eq_true rfl) (v := S6 6 i4) (fl_6 _ _ (i := i4) (by omega)) dX7_month_51 ?_
        refine g_lconst X (v := 0) dX7_month_52 (by decide +kernel) ?_
        refine g_lj_ne X (tgt := 97) (pc1 := 54) dX7_month_53 rfl dX7_month_54 (by decide) (fun h95 => ?_) (fun h95 => ?_)
        · --
          exact J100 _ _ _ (by rw [if_neg (c := ¬ (C 3 i4) = 0) (fun z => z h94), if_pos (c := ¬ (S6 6 i4) = (0 : Int64)) h95]) (by rw [if_neg (c := ¬ (C 3 i4) = 0) (fun z => z h94), if_pos (c := ¬ (S6 6 i4) = (0 : Int64)) h95]) (by rw [if_neg (c := ¬ (C 3 i4) = 0) (fun z => z h94), if_pos (c := ¬ (S6 6 i4) = (0 : Int64)) h95])
        · --
          refine g_aload_n X 0 dX7_month_57 rfl rfl ?_
          refine g_aload_n X 0 dX7_month_58 rfl rfl ?_
          refine g_get X (C := RX7) (T := TX7) (N := 21) (v := .ref (h 5)) inlX7 0 rfl rfl 7 (Nat.le_of_ble_eq_true rfl) kF_X7_23 rfl dX7_month_59 ?_
          refine g_iload X 3 dX7_month_62 rfl ?_
          refine g_iald X 5 rfl (i4) rfl (by omega) (Nat.le_of_ble_eq_true rfl) (v := nI (plN C i4)) (hC.pl (by omega)).1 dX7_month_64 ?_
          refine g_callV X (As := [.int (nI (plN C i4))]) (rest := []) (m_X7_degrees l D cI cJ cZ h th C N S6 Qk K P Y (plN C i4) hpl (hWk.ne hpl)) kM_X7_111 kI_yX7_degrees kS_yX7_degrees kZ_RX7 kC_yX7_degrees hV_X7_degrees rfl rfl rfl 0 rfl (ci := 7) rfl ⟨Nat.le_of_ble_eq_true rfl, Nat.le_of_ble_eq_true rfl⟩ ⟨Nat.le_of_ble_eq_true rfl, Nat.le_of_ble_eq_true rfl⟩ (Nat.le_of_ble_eq_true rfl) dX7_month_65 rfl [0, 1, 2, 3, 4, 5, 6, 7, 8, 9, 10, 11, 12, 13, 14, 15, 16] rfl rfl (g_kk1 (w2 := wM h cI cJ cZ th C N S6 Qk K P Y) ⟨[0, 1, 2, 3, 4, 5, 6, 7, 8, 9, 10, 11, 12, 13, 14, 15, 16], [], [0, 1, 2, 3, 4, 5, 6, 7, 8, 9, 10, 11, 12, 13, 14, 15, 16], [], rfl, rfl, rfl, rfl, by decide, rfl, rfl⟩ ?_)
          refine g_ldc2 X kL_X7_125 dX7_month_68 ?_
          refine g_callS X (As := [.long (deg S6 (plN C i4)), .long (100 : Int64)]) (rest := []) (m_X7_lesser l D cI cJ cZ (deg S6 (plN C i4)) (100 : Int64) ) kM_X7_129 kT_yX7_lesser kZ_RX7 kC_yX7_lesser hV_X7_lesser rfl rfl rfl ⟨Nat.le_of_ble_eq_true rfl, Nat.le_of_ble_eq_true rfl⟩ ⟨Nat.le_of_ble_eq_true rfl, Nat.le_of_ble_eq_true rfl⟩ (Nat.le_of_ble_eq_true rfl) dX7_month_71 rfl [] rfl rfl (g_kk1 (w2 := wM h cI cJ cZ th C N S6 Qk K P Y) ⟨[], [0, 1, 2, 3, 4, 5, 6, 7, 8, 9, 10, 11, 12, 13, 14, 15, 16], [0, 1, 2, 3, 4, 5, 6, 7, 8, 9, 10, 11, 12, 13, 14, 15, 16], ([0, 1, 2, 3, 4, 5, 6, 7, 8, 9, 10, 11, 12, 13, 14, 15, 16].filterMap fun i => (wM h cI cJ cZ th C N S6 Qk K P Y)[i]?), rfl, rfl, rfl, rfl, by decide, rfl, rfl⟩ ?_)
          refine g_lstore X [(6, .long (if (100 : Int64) < (deg S6 (plN C i4)) then (100 : Int64) else deg S6 (plN C i4))), (0, .ref (h 0)), (1, .long a7), (3, .long a8), (5, .int (nI i4))] dX7_month_74 (Nat.le_of_ble_eq_true rfl) rfl ?_
          refine g_aload_n X 1 dX7_month_76 rfl rfl ?_
          refine g_iload X 4 dX7_month_77 rfl ?_
          obtain ⟨S96, eS96⟩ : ∃ z : St, z = drawS C N S6 i4 := ⟨_, rfl⟩
          refine g_callV X (As := [.int (nI i4)]) (rest := []) (m_X7_draws l D cI cJ cZ h th C N S6 Qk K P Y i4 hC hWk hD.2 (by omega)) kM_X7_164 kI_yX7_draws kS_yX7_draws kZ_RX7 kC_yX7_draws hV_X7_draws rfl rfl rfl 0 rfl (ci := 7) rfl ⟨Nat.le_of_ble_eq_true rfl, Nat.le_of_ble_eq_true rfl⟩ ⟨Nat.le_of_ble_eq_true rfl, Nat.le_of_ble_eq_true rfl⟩ (Nat.le_of_ble_eq_true rfl) dX7_month_79 rfl [0, 1, 2, 3, 4, 5, 6, 7, 8, 9, 10, 11, 12, 13, 14, 15, 16] rfl rfl (g_kk1 (w2 := wM h cI cJ cZ th C N S96 Qk K P Y) (by rw [eS96]; exact ⟨[0, 1, 2, 3, 4, 5, 6, 7, 8, 9, 10, 11, 12, 13, 14, 15, 16], [], [0, 1, 2, 3, 4, 5, 6, 7, 8, 9, 10, 11, 12, 13, 14, 15, 16], [], rfl, rfl, rfl, rfl, by decide, rfl, rfl⟩) ?_)
          refine g_lstore X [(8, .long (brW C S6 i4)), (6, .long (if (100 : Int64) < (deg S6 (plN C i4)) then (100 : Int64) else deg S6 (plN C i4))), (0, .ref (h 0)), (1, .long a7), (3, .long a8), (5, .int (nI i4))] dX7_month_82 (Nat.le_of_ble_eq_true rfl) rfl ?_
          refine g_lload_n X 3 dX7_month_84 rfl rfl ?_
          refine g_lload X 0 dX7_month_85 rfl ?_
          refine g_ladd X (v := a7 + (brW C S6 i4)) dX7_month_87 rfl ?_
          refine g_lstore_n X [(1, .long (a7 + (brW C S6 i4))), (8, .long (brW C S6 i4)), (6, .long (if (100 : Int64) < (deg S6 (plN C i4)) then (100 : Int64) else deg S6 (plN C i4))), (0, .ref (h 0)), (3, .long a8), (5, .int (nI i4))] dX7_month_88 rfl (Nat.le_of_ble_eq_true rfl) rfl ?_
          refine g_lload_n X 4 dX7_month_89 rfl rfl ?_
          refine g_lload X 1 dX7_month_90 rfl ?_
          refine g_lload X 2 dX7_month_92 rfl ?_
          refine g_lmul X (v := (brW C S6 i4) * (if (100 : Int64) < (deg S6 (plN C i4)) then (100 : Int64) else deg S6 (plN C i4))) dX7_month_94 rfl ?_
          refine g_ladd X (v := a8 + ((brW C S6 i4) * (if (100 : Int64) < (deg S6 (plN C i4)) then (100 : Int64) else deg S6 (plN C i4)))) dX7_month_95 rfl ?_
          refine g_lstore_n X [(3, .long (a8 + ((brW C S6 i4) * (if (100 : Int64) < (deg S6 (plN C i4)) then (100 : Int64) else deg S6 (plN C i4))))), (1, .long (a7 + (brW C S6 i4))), (8, .long (brW C S6 i4)), (6, .long (if (100 : Int64) < (deg S6 (plN C i4)) then (100 : Int64) else deg S6 (plN C i4))), (0, .ref (h 0)), (5, .int (nI i4))] dX7_month_96 rfl (Nat.le_of_ble_eq_true rfl) rfl ?_
          refine g_lv _ [4, 1, 0, 5] rfl ?_
          exact J100 _ _ _ (by (try rw [eS96]); rw [if_neg (c := ¬ (C 3 i4) = 0) (fun z => z h94), if_neg (c := ¬ (S6 6 i4) = (0 : Int64)) (fun z => z h95)]) (by (try rw [eS96]); rw [if_neg (c := ¬ (C 3 i4) = 0) (fun z => z h94), if_neg (c := ¬ (S6 6 i4) = (0 : Int64)) (fun z => z h95)]) (by (try rw [eS96]); rw [if_neg (c := ¬ (C 3 i4) = 0) (fun z => z h94), if_neg (c := ¬ (S6 6 i4) = (0 : Int64)) (fun z => z h95)])
  refine g_lv _ [3, 2, 1, 0] rfl ?_
  exact L3 ((N 0)) 0 _ _ _ (by omega) (by first | rfl | ((try rw [eS2]); (try rw [eS1]); first | done | rfl)) (by first | rfl | ((try rw [eS2]); (try rw [eS1]); first | done | rfl)) (by first | rfl | ((try rw [eS2]); (try rw [eS1]); first | done | rfl))
