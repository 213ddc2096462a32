/-- a month whole -/
def m1S (C : Cf) (N : Nat → Nat) (S : St) : St := itr (shW C N) (u2 S 13 0 (S 13 0 + 1)) (N 0)
def m2S (C : Cf) (N : Nat → Nat) (S : St) : St := itr (dwS C N) (m1S C N S) (N 0)
def mBr (C : Cf) (N : Nat → Nat) (S : St) : Int64 := brn C N (m1S C N S) (N 0)
def mBh (C : Cf) (N : Nat → Nat) (S : St) : Int64 := brh C N (m1S C N S) (N 0)
def mSel (C : Cf) (N : Nat → Nat) (S : St) : Int64 × Int64 := selP C (mBr C N S) (mBh C N S) (m2S C N S 12 5) (N 1)
def m3S (C : Cf) (N : Nat → Nat) (S : St) : St := u2 (m2S C N S) 12 5 (mSel C N S).2
def m4S (C : Cf) (N : Nat → Nat) (S : St) : St := gbS C N (m3S C N S) (mBr C N S) (mSel C N S).1
def m5S (C : Cf) (N : Nat → Nat) (S : St) : St := itr shS (m4S C N S) 12
def monQ (C : Cf) (N : Nat → Nat) (S : St) (Qk : Nat → Int64) : Nat → Int64 := shQ (m4S C N S) Qk 12
def m6S (C : Cf) (N : Nat → Nat) (S : St) : St := crk C (m5S C N S)
def m7S (C : Cf) (N : Nat → Nat) (S : St) : St := itr (raS C) (m6S C N S) 12
def monS (C : Cf) (N : Nat → Nat) (S : St) : St := itr (feS C) (m7S C N S) (N 2)
def monZ (C : Cf) (N : Nat → Nat) (S Z : St) : St := itr (ahd (m5S C N S)) (u2 (u2 (u2 Z 3 0 (mBr C N S)) 3 1 (mBh C N S)) 3 2 (mSel C N S).1) 12
theorem m1_ok (C : Cf) (N : Nat → Nat) (S : St) (k : Int) (hW : Wk k S) (hE : Wel N S) (hm : (S 13 0).toInt ≤ 900) : Wk k (m1S C N S) ∧ Wel N (m1S C N S) := sorry
theorem m4_ok (C : Cf) (N : Nat → Nat) (S : St) (k : Int) (hC : Cok C N) (hW : Wk k S) (h0 : 0 ≤ k) (hk : k + 200000 ≤ 1099511627776) (hE : Wel N S) (hm : (S 13 0).toInt ≤ 900) : Wk (k + 100000) (m4S C N S) := sorry
theorem m4_q (C : Cf) (N : Nat → Nat) (S : St) : m4S C N S 14 0 = S 14 0 := sorry
theorem m5_0 (S : St) : ∀ n, itr shS S n 0 = S 0
  | 0 => rfl
  | n + 1 => by
    show shS n (itr shS S n) 0 = S 0
    unfold shS
    rw [u2_c _ _ _ (by decide)]
    split
    · exact m5_0 S n
    · exact m5_0 S n
theorem crk_ok (C : Cf) (S : St) (k : Int) (hW : Wk k S) : Wk k (crk C S) := sorry
theorem Wk.mono {k k2 : Int} {S : St} (h : Wk k S) (hk : k ≤ k2) : Wk k2 S := fun b hb => ⟨(h b hb).1, Int.le_trans (h b hb).2 hk⟩
theorem Wk.row {k : Int} {S T : St} (h : Wk k S) (e : T 0 = S 0) : Wk k T := fun b hb => by rw [e]; exact h b hb

