/-! a callee's cells as one or two stretches of the caller's -/
theorem va_nd_of : ∀ {l : List Nat}, l.Nodup → va_nd l = true
  | [], _ => rfl
  | a :: l, h => by
    rw [List.nodup_cons] at h
    show (decide (a ∉ l) && va_nd l) = true
    rw [decide_eq_true h.1, va_nd_of h.2]
    rfl
theorem em_seg {V p q r : va_W} {k n : Nat} (hV : V = p ++ (q ++ r)) (hk : p.length = k) (hn : q.length = n) : (List.range' k n).map (fun i => V[i]?) = q.map some := by
  subst hV
  subst hk
  subst hn
  apply List.ext_getElem?
  intro i
  rw [List.getElem?_map, List.getElem?_map]
  by_cases hi : i < q.length
  · rw [List.getElem?_range' hi, List.getElem?_eq_getElem hi]
    show some ((p ++ (q ++ r))[p.length + 1 * i]?) = some (some q[i])
    rw [Nat.one_mul, List.getElem?_append_right (by omega), Nat.add_sub_cancel_left, List.getElem?_append_left hi, List.getElem?_eq_getElem hi]
  · rw [List.getElem?_eq_none (by simp; omega), List.getElem?_eq_none (by omega)]
    rfl
/-- the two stretches: from k1 on n1, from k2 on n2 -/
theorem em_ws (ws : va_W) (k1 n1 k2 n2 : Nat) (hk : k1 + n1 ≤ k2) : ws = ws.take k1 ++ ((ws.drop k1).take n1 ++ ((ws.drop (k1 + n1)).take (k2 - (k1 + n1)) ++ ((ws.drop k2).take n2 ++ ws.drop (k2 + n2)))) := by
  have e1 : (ws.drop k2).take n2 ++ ws.drop (k2 + n2) = ws.drop k2 := by rw [← List.drop_drop, List.take_append_drop]
  have e2 : (ws.drop (k1 + n1)).take (k2 - (k1 + n1)) ++ ws.drop k2 = ws.drop (k1 + n1) := by
    have : ws.drop k2 = (ws.drop (k1 + n1)).drop (k2 - (k1 + n1)) := by rw [List.drop_drop]; congr 1; omega
    rw [this, List.take_append_drop]
  have e3 : (ws.drop k1).take n1 ++ ws.drop (k1 + n1) = ws.drop k1 := by rw [← List.drop_drop, List.take_append_drop]
  rw [e1, e2, e3, List.take_append_drop]
def em_I (k1 n1 k2 n2 : Nat) : List Nat := List.range' k1 n1 ++ List.range' k2 n2
theorem em_nd {k1 n1 k2 n2 : Nat} (hk : k1 + n1 ≤ k2) : va_nd (em_I k1 n1 k2 n2) = true := va_nd_of (List.nodup_append.mpr ⟨List.nodup_range', List.nodup_range', fun a ha b hb => by
  rw [List.mem_range'_1] at ha hb
  omega⟩)
theorem em_C {ws wc : va_W} {k1 n1 k2 n2 : Nat} (hk : k1 + n1 ≤ k2) (hlen : k2 + n2 ≤ ws.length) (hc : (ws.drop k1).take n1 ++ (ws.drop k2).take n2 = wc) : (em_I k1 n1 k2 n2).map (fun i => ws[i]?) = wc.map some := by
  have h := em_ws ws k1 n1 k2 n2 hk
  subst hc
  unfold em_I
  rw [List.map_append, List.map_append]
  rw [em_seg h (by simp; omega) (by simp; omega)]
  rw [em_seg (V := ws) (p := ws.take k1 ++ ((ws.drop k1).take n1 ++ (ws.drop (k1 + n1)).take (k2 - (k1 + n1)))) (q := (ws.drop k2).take n2) (r := ws.drop (k2 + n2)) (by rw [List.append_assoc, List.append_assoc]; exact h) (by simp; omega) (by simp; omega)]
theorem em3 {ws wc w w2 : va_W} (k1 n1 k2 n2 : Nat) (hk : k1 + n1 ≤ k2) (hlen : k2 + n2 ≤ ws.length) (hc : (ws.drop k1).take n1 ++ (ws.drop k2).take n2 = wc) (hw : w.length = n1 + n2) (h2 : ws.take k1 ++ (w.take n1 ++ ((ws.drop (k1 + n1)).take (k2 - (k1 + n1)) ++ (w.drop n1 ++ ws.drop (k2 + n2)))) = w2) : g_Emb ws wc w w2 := by
  have h := em_ws ws k1 n1 k2 n2 hk
  obtain ⟨A, hA⟩ : ∃ A, A = ws.take k1 := ⟨_, rfl⟩
  obtain ⟨M, hM⟩ : ∃ M, M = (ws.drop (k1 + n1)).take (k2 - (k1 + n1)) := ⟨_, rfl⟩
  obtain ⟨T, hT⟩ : ∃ T, T = ws.drop (k2 + n2) := ⟨_, rfl⟩
  obtain ⟨P1, hP1⟩ : ∃ P, P = (ws.drop k1).take n1 := ⟨_, rfl⟩
  obtain ⟨P2, hP2⟩ : ∃ P, P = (ws.drop k2).take n2 := ⟨_, rfl⟩
  obtain ⟨B1, hB1⟩ : ∃ P, P = w.take n1 := ⟨_, rfl⟩
  obtain ⟨B2, hB2⟩ : ∃ P, P = w.drop n1 := ⟨_, rfl⟩
  have hwB : w = B1 ++ B2 := by rw [hB1, hB2, List.take_append_drop]
  have lA : A.length = k1 := by rw [hA]; simp; omega
  have lM : M.length = k2 - (k1 + n1) := by rw [hM]; simp; omega
  have lT : T.length = ws.length - (k2 + n2) := by rw [hT]; simp
  have lP1 : P1.length = n1 := by rw [hP1]; simp; omega
  have lP2 : P2.length = n2 := by rw [hP2]; simp; omega
  have lB1 : B1.length = n1 := by rw [hB1]; simp; omega
  have lB2 : B2.length = n2 := by rw [hB2]; simp; omega
  have hC := em_C hk hlen hc
  rw [← hA, ← hM, ← hT, ← hP1, ← hP2] at h
  rw [← hA, ← hM, ← hT, ← hB1, ← hB2] at h2
  generalize ht : ws.length - (k2 + n2) = t at lT
  generalize hm : k2 - (k1 + n1) = m at lM
  have V : (A ++ (M ++ T)) ++ w = A ++ (M ++ (T ++ (B1 ++ B2))) := by rw [hwB]; simp only [List.append_assoc]
  refine ⟨em_I k1 n1 k2 n2, List.range' 0 k1 ++ (List.range' (k1 + n1) m ++ List.range' (k2 + n2) t), List.range' 0 k1 ++ (List.range' (k1 + m + t) n1 ++ (List.range' k1 m ++ (List.range' (k1 + m + t + n1) n2 ++ List.range' (k1 + m) t))), A ++ (M ++ T), hC, em_nd hk, ?_, ?_, ?_, ?_, ?_⟩
  · rw [List.map_append, List.map_append, List.map_append, List.map_append]
    rw [em_seg (V := ws) (k := 0) (p := []) (q := A) h rfl lA]
    rw [em_seg (V := ws) (p := A ++ P1) (q := M) (by rw [List.append_assoc]; exact h) (by rw [List.length_append]; omega) lM]
    rw [em_seg (V := ws) (p := A ++ (P1 ++ (M ++ P2))) (q := T) (r := []) (by rw [List.append_nil]; simp only [List.append_assoc]; exact h) (by simp only [List.length_append]; omega) lT]
  · exact va_nd_of (List.nodup_append.mpr ⟨List.nodup_range', List.nodup_append.mpr ⟨List.nodup_range', List.nodup_range', fun a ha b hb => by
      rw [List.mem_range'_1] at ha hb
      omega⟩, fun a ha b hb => by
      simp only [List.mem_append, List.mem_range'_1] at ha hb
      omega⟩)
  · intro i hi hj
    unfold em_I at hj
    simp only [List.mem_append, List.mem_range'_1] at hi hj
    omega
  · rw [← h2]
    simp only [List.map_append]
    rw [em_seg (V := A ++ (M ++ T) ++ w) (k := 0) (p := []) (q := A) V rfl lA]
    rw [em_seg (V := A ++ (M ++ T) ++ w) (p := A ++ (M ++ T)) (q := B1) (r := B2) (by rw [hwB]) (by simp only [List.length_append]; omega) lB1]
    rw [em_seg (V := A ++ (M ++ T) ++ w) (p := A) (q := M) V lA lM]
    rw [em_seg (V := A ++ (M ++ T) ++ w) (p := A ++ (M ++ (T ++ B1))) (q := B2) (r := []) (by rw [V, List.append_nil]; simp only [List.append_assoc]) (by simp only [List.length_append]; omega) lB2]
    rw [em_seg (V := A ++ (M ++ T) ++ w) (p := A ++ M) (q := T) (r := B1 ++ B2) (by rw [V]; simp only [List.append_assoc]) (by simp only [List.length_append]; omega) lT]
  · refine va_nd_of (List.nodup_append.mpr ⟨List.nodup_range', List.nodup_append.mpr ⟨List.nodup_range', List.nodup_append.mpr ⟨List.nodup_range', List.nodup_append.mpr ⟨List.nodup_range', List.nodup_range', ?_⟩, ?_⟩, ?_⟩, ?_⟩) <;> (intro a ha b hb; simp only [List.mem_append, List.mem_range'_1] at ha hb; omega)
theorem em0 {ws : va_W} : g_Emb ws [] [] ws := em3 0 0 0 0 (by decide) (Nat.zero_le _) rfl rfl (by simp)
