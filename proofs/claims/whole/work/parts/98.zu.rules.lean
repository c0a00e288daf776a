/-! THE FIRST CELLS: where they point to -/
theorem jrA_out {N : jN} {a b z k j : Int} (h : j < 0 ∨ z ≤ j) : jrA N a b z k j = N k j := if_neg fun q => by omega
theorem topo_shop {b i j : Int} (e : jbase (b + i) = b) (hb : b ≠ 0) : topo (b + i) j = if 0 ≤ j ∧ 0 ≤ jtpS i j then (if b + jtpS i j < 0 then none else some (b + jtpS i j)) else none := by
  unfold topo jtp
  rw [e, if_neg hb, show b + i - b = i by omega]
  by_cases c : 0 ≤ j ∧ 0 ≤ jtpS i j
  · rw [if_pos c, if_pos c]
  · rw [if_neg c, if_neg c]
    rfl
def nN : jN := fun _ _ => none
def zM : jM := fun _ _ => 0
theorem shopN_0 {b j : Int} {N : jN} (hN : N b j = none) : shopN b N b j = if 0 ≤ j ∧ 0 ≤ jtpS 0 j then some (b + jtpS 0 j) else none := by
  have hj : j = 0 ∨ j = 1 ∨ j = 2 ∨ j = 3 ∨ j = 4 ∨ j = 5 ∨ j = 6 ∨ j = 7 ∨ j = 8 ∨ j = 9 ∨ j = 10 ∨ j = 11 ∨ j = 12 ∨ j = 13 ∨ j = 14 ∨ j = 15 ∨ j = 16 ∨ j = 17 ∨ j = 18 ∨ j = 19 ∨ (j < 0 ∨ 20 ≤ j) := by omega
  unfold shopN shopN0 lawN looksN
  rcases hj with hj | hj | hj | hj | hj | hj | hj | hj | hj | hj | hj | hj | hj | hj | hj | hj | hj | hj | hj | hj | hj
  · subst hj
    simp (disch := omega) only [jsetN_k, jsetN_j, jrA_k, jrA_out, jsetN_same]
    rw [if_pos (by decide)]
    exact congrArg some (by show _ = b + (1 : Int); omega)
  · subst hj
    simp (disch := omega) only [jsetN_k, jsetN_j, jrA_k, jrA_out, jsetN_same]
    rw [if_pos (by decide)]
    exact congrArg some (by show _ = b + (6 : Int); omega)
  · subst hj
    simp (disch := omega) only [jsetN_k, jsetN_j, jrA_k, hN]
    rw [if_neg (by decide)]
  · subst hj
    simp (disch := omega) only [jsetN_k, jsetN_j, jrA_k, jrA_out, jsetN_same]
    rw [if_pos (by decide)]
    exact congrArg some (by show _ = b + (11 : Int); omega)
  · subst hj
    simp (disch := omega) only [jsetN_k, jsetN_j, jrA_k, hN]
    rw [if_neg (by decide)]
  · subst hj
    simp (disch := omega) only [jsetN_k, jsetN_j, jrA_k, jrA_out, jsetN_same]
    rw [if_pos (by decide)]
    exact congrArg some (by show _ = b + (15 : Int); omega)
  · subst hj
    simp (disch := omega) only [jsetN_k, jsetN_j, jrA_k, hN]
    rw [if_neg (by decide)]
  · subst hj
    simp (disch := omega) only [jsetN_k, jsetN_j, jrA_k, jrA_out, jsetN_same]
    rw [if_pos (by decide)]
    exact congrArg some (by show _ = b + (16 : Int); omega)
  · subst hj
    simp (disch := omega) only [jsetN_k, jsetN_j, jrA_k, hN]
    rw [if_neg (by decide)]
  · subst hj
    simp (disch := omega) only [jsetN_k, jsetN_j, jrA_k, jrA_out, jsetN_same]
    rw [if_pos (by decide)]
    exact congrArg some (by show _ = b + (17 : Int); omega)
  · subst hj
    simp (disch := omega) only [jsetN_k, jsetN_j, jrA_k, hN]
    rw [if_neg (by decide)]
  · subst hj
    simp (disch := omega) only [jsetN_k, jsetN_j, jrA_k, jrA_out, jsetN_same]
    rw [if_pos (by decide)]
    exact congrArg some (by show _ = b + (18 : Int); omega)
  · subst hj
    simp (disch := omega) only [jsetN_k, jsetN_j, jrA_k, hN]
    rw [if_neg (by decide)]
  · subst hj
    simp (disch := omega) only [jsetN_k, jsetN_j, jrA_k, jrA_out, jsetN_same]
    rw [if_pos (by decide)]
    exact congrArg some (by show _ = b + (19 : Int); omega)
  · subst hj
    simp (disch := omega) only [jsetN_k, jsetN_j, jrA_k, hN]
    rw [if_neg (by decide)]
  · subst hj
    simp (disch := omega) only [jsetN_k, jsetN_j, jrA_k, jrA_out, jsetN_same]
    rw [if_pos (by decide)]
    exact congrArg some (by show _ = b + (30 : Int); omega)
  · subst hj
    simp (disch := omega) only [jsetN_k, jsetN_j, jrA_k, jrA_out, jsetN_same]
    rw [if_pos (by decide)]
    exact congrArg some (by show _ = b + (37 : Int); omega)
  · subst hj
    simp (disch := omega) only [jsetN_k, jsetN_j, jrA_k, hN]
    rw [if_neg (by decide)]
  · subst hj
    simp (disch := omega) only [jsetN_k, jsetN_j, jrA_k, jrA_out, jsetN_same]
    rw [if_pos (by decide)]
    exact congrArg some (by show _ = b + (42 : Int); omega)
  · subst hj
    simp (disch := omega) only [jsetN_k, jsetN_j, jrA_k, hN]
    rw [if_neg (by decide)]
  · simp (disch := omega) only [jsetN_k, jsetN_j, jrA_k, hN]
    rw [if_neg (fun h => by
      have e : jtpS 0 j = -1 := by
        unfold jtpS
        rw [if_pos rfl, List.getD_eq_getElem?_getD, List.getElem?_eq_none (by show 20 ≤ j.toNat; omega)]
        rfl
      omega)]
theorem shopN_1 {b j : Int} {N : jN} (hN : N (b + 1) j = none) : shopN b N (b + 1) j = if 0 ≤ j ∧ 0 ≤ jtpS 1 j then some (b + jtpS 1 j) else none := by
  have hj : j = 0 ∨ j = 1 ∨ j = 2 ∨ j = 3 ∨ j = 4 ∨ j = 5 ∨ (j < 0 ∨ 6 ≤ j) := by omega
  unfold shopN shopN0 lawN looksN
  rcases hj with hj | hj | hj | hj | hj | hj | hj
  · subst hj
    simp (disch := omega) only [jsetN_k, jsetN_j, jrA_k, hN]
    rw [if_neg (by decide)]
  · subst hj
    simp (disch := omega) only [jsetN_k, jsetN_j, jrA_k, jrA_out, jsetN_same]
    rw [if_pos (by decide)]
    exact congrArg some (by show _ = b + (2 : Int); omega)
  · subst hj
    simp (disch := omega) only [jsetN_k, jsetN_j, jrA_k, jrA_out, jsetN_same]
    rw [if_pos (by decide)]
    exact congrArg some (by show _ = b + (3 : Int); omega)
  · subst hj
    simp (disch := omega) only [jsetN_k, jsetN_j, jrA_k, jrA_out, jsetN_same]
    rw [if_pos (by decide)]
    exact congrArg some (by show _ = b + (4 : Int); omega)
  · subst hj
    simp (disch := omega) only [jsetN_k, jsetN_j, jrA_k, jrA_out, jsetN_same]
    rw [if_pos (by decide)]
    exact congrArg some (by show _ = b + (5 : Int); omega)
  · subst hj
    simp (disch := omega) only [jsetN_k, jsetN_j, jrA_k, hN]
    rw [if_neg (by decide)]
  · simp (disch := omega) only [jsetN_k, jsetN_j, jrA_k, hN]
    rw [if_neg (fun h => by
      have e : jtpS 1 j = -1 := by
        unfold jtpS
        simp only [Int.reduceEq, if_false, if_true, or_false, or_true, false_or, true_or]
        omega
      omega)]
theorem shopN_6 {b j : Int} {N : jN} (hN : N (b + 6) j = none) : shopN b N (b + 6) j = if 0 ≤ j ∧ 0 ≤ jtpS 6 j then some (b + jtpS 6 j) else none := by
  have hj : j = 0 ∨ j = 1 ∨ j = 2 ∨ j = 3 ∨ j = 4 ∨ j = 5 ∨ (j < 0 ∨ 6 ≤ j) := by omega
  unfold shopN shopN0 lawN looksN
  rcases hj with hj | hj | hj | hj | hj | hj | hj
  · subst hj
    simp (disch := omega) only [jsetN_k, jsetN_j, jrA_k, hN]
    rw [if_neg (by decide)]
  · subst hj
    simp (disch := omega) only [jsetN_k, jsetN_j, jrA_k, jrA_out, jsetN_same]
    rw [if_pos (by decide)]
    exact congrArg some (by show _ = b + (7 : Int); omega)
  · subst hj
    simp (disch := omega) only [jsetN_k, jsetN_j, jrA_k, jrA_out, jsetN_same]
    rw [if_pos (by decide)]
    exact congrArg some (by show _ = b + (8 : Int); omega)
  · subst hj
    simp (disch := omega) only [jsetN_k, jsetN_j, jrA_k, jrA_out, jsetN_same]
    rw [if_pos (by decide)]
    exact congrArg some (by show _ = b + (9 : Int); omega)
  · subst hj
    simp (disch := omega) only [jsetN_k, jsetN_j, jrA_k, jrA_out, jsetN_same]
    rw [if_pos (by decide)]
    exact congrArg some (by show _ = b + (10 : Int); omega)
  · subst hj
    simp (disch := omega) only [jsetN_k, jsetN_j, jrA_k, hN]
    rw [if_neg (by decide)]
  · simp (disch := omega) only [jsetN_k, jsetN_j, jrA_k, hN]
    rw [if_neg (fun h => by
      have e : jtpS 6 j = -1 := by
        unfold jtpS
        simp only [Int.reduceEq, if_false, if_true, or_false, or_true, false_or, true_or]
        omega
      omega)]
theorem shopN_11 {b j : Int} {N : jN} (hN : N (b + 11) j = none) : shopN b N (b + 11) j = if 0 ≤ j ∧ 0 ≤ jtpS 11 j then some (b + jtpS 11 j) else none := by
  have hj : j = 0 ∨ j = 1 ∨ j = 2 ∨ j = 3 ∨ j = 4 ∨ (j < 0 ∨ 5 ≤ j) := by omega
  unfold shopN shopN0 lawN looksN
  rcases hj with hj | hj | hj | hj | hj | hj
  · subst hj
    simp (disch := omega) only [jsetN_k, jsetN_j, jrA_k, hN]
    rw [if_neg (by decide)]
  · subst hj
    simp (disch := omega) only [jsetN_k, jsetN_j, jrA_k, hN]
    rw [if_neg (by decide)]
  · subst hj
    simp (disch := omega) only [jsetN_k, jsetN_j, jrA_k, jrA_out, jsetN_same]
    rw [if_pos (by decide)]
    exact congrArg some (by show _ = b + (12 : Int); omega)
  · subst hj
    simp (disch := omega) only [jsetN_k, jsetN_j, jrA_k, jrA_out, jsetN_same]
    rw [if_pos (by decide)]
    exact congrArg some (by show _ = b + (13 : Int); omega)
  · subst hj
    simp (disch := omega) only [jsetN_k, jsetN_j, jrA_k, jrA_out, jsetN_same]
    rw [if_pos (by decide)]
    exact congrArg some (by show _ = b + (14 : Int); omega)
  · simp (disch := omega) only [jsetN_k, jsetN_j, jrA_k, hN]
    rw [if_neg (fun h => by
      have e : jtpS 11 j = -1 := by
        unfold jtpS
        simp only [Int.reduceEq, if_false, if_true, or_false, or_true, false_or, true_or]
        omega
      omega)]
theorem shopN_15 {b j : Int} {N : jN} (hN : N (b + 15) j = none) : shopN b N (b + 15) j = if 0 ≤ j ∧ 0 ≤ jtpS 15 j then some (b + jtpS 15 j) else none := by
  have e : jtpS 15 j = if 0 ≤ j ∧ j < 12 then 55 + j else -1 := by
    unfold jtpS
    simp only [Int.reduceEq, if_false, if_true, or_false, or_true, false_or, true_or]
  unfold shopN shopN0
  by_cases h : 0 ≤ j ∧ j < 12
  · obtain ⟨h0, h1⟩ := h
    rw [if_pos ⟨h0, h1⟩] at e
    rw [e, if_pos ⟨h0, by omega⟩]
    simp (disch := omega) only [jsetN_k, jrA_k, jrA_in, lawN_k, looksN_k]
    exact congrArg some (by omega)
  · rw [if_neg h] at e
    rw [e, if_neg (by omega)]
    have h2 : j < 0 ∨ 12 ≤ j := by omega
    simp (disch := omega) only [jsetN_k, jrA_k, jrA_out, lawN_k, looksN_k, hN]
theorem shopN_16 {b j : Int} {N : jN} (hN : N (b + 16) j = none) : shopN b N (b + 16) j = if 0 ≤ j ∧ 0 ≤ jtpS 16 j then some (b + jtpS 16 j) else none := by
  have e : jtpS 16 j = if 0 ≤ j ∧ j < 16 then 67 + j else -1 := by
    unfold jtpS
    simp only [Int.reduceEq, if_false, if_true, or_false, or_true, false_or, true_or]
  unfold shopN shopN0
  by_cases h : 0 ≤ j ∧ j < 16
  · obtain ⟨h0, h1⟩ := h
    rw [if_pos ⟨h0, h1⟩] at e
    rw [e, if_pos ⟨h0, by omega⟩]
    simp (disch := omega) only [jsetN_k, jrA_k, jrA_in, lawN_k, looksN_k]
    exact congrArg some (by omega)
  · rw [if_neg h] at e
    rw [e, if_neg (by omega)]
    have h2 : j < 0 ∨ 16 ≤ j := by omega
    simp (disch := omega) only [jsetN_k, jrA_k, jrA_out, lawN_k, looksN_k, hN]
theorem shopN_17 {b j : Int} {N : jN} (hN : N (b + 17) j = none) : shopN b N (b + 17) j = if 0 ≤ j ∧ 0 ≤ jtpS 17 j then some (b + jtpS 17 j) else none := by
  have e : jtpS 17 j = if 0 ≤ j ∧ j < 60 then 83 + j else -1 := by
    unfold jtpS
    simp only [Int.reduceEq, if_false, if_true, or_false, or_true, false_or, true_or]
  unfold shopN shopN0
  by_cases h : 0 ≤ j ∧ j < 60
  · obtain ⟨h0, h1⟩ := h
    rw [if_pos ⟨h0, h1⟩] at e
    rw [e, if_pos ⟨h0, by omega⟩]
    simp (disch := omega) only [jsetN_k, jrA_k, jrA_in, lawN_k, looksN_k]
    exact congrArg some (by omega)
  · rw [if_neg h] at e
    rw [e, if_neg (by omega)]
    have h2 : j < 0 ∨ 60 ≤ j := by omega
    simp (disch := omega) only [jsetN_k, jrA_k, jrA_out, lawN_k, looksN_k, hN]
theorem shopN_18 {b j : Int} {N : jN} (hN : N (b + 18) j = none) : shopN b N (b + 18) j = if 0 ≤ j ∧ 0 ≤ jtpS 18 j then some (b + jtpS 18 j) else none := by
  have e : jtpS 18 j = if 0 ≤ j ∧ j < 150 then 143 + j else -1 := by
    unfold jtpS
    simp only [Int.reduceEq, if_false, if_true, or_false, or_true, false_or, true_or]
  unfold shopN shopN0
  by_cases h : 0 ≤ j ∧ j < 150
  · obtain ⟨h0, h1⟩ := h
    rw [if_pos ⟨h0, h1⟩] at e
    rw [e, if_pos ⟨h0, by omega⟩]
    simp (disch := omega) only [jsetN_k, jrA_k, jrA_in, lawN_k, looksN_k]
    exact congrArg some (by omega)
  · rw [if_neg h] at e
    rw [e, if_neg (by omega)]
    have h2 : j < 0 ∨ 150 ≤ j := by omega
    simp (disch := omega) only [jsetN_k, jrA_k, jrA_out, lawN_k, looksN_k, hN]
theorem shopN_19 {b j : Int} {N : jN} (hN : N (b + 19) j = none) : shopN b N (b + 19) j = if 0 ≤ j ∧ 0 ≤ jtpS 19 j then some (b + jtpS 19 j) else none := by
  have e : jtpS 19 j = if 0 ≤ j ∧ j < 10 then 20 + j else -1 := by
    unfold jtpS
    simp only [Int.reduceEq, if_false, if_true, or_false, or_true, false_or, true_or]
  unfold shopN shopN0
  by_cases h : 0 ≤ j ∧ j < 10
  · obtain ⟨h0, h1⟩ := h
    rw [if_pos ⟨h0, h1⟩] at e
    rw [e, if_pos ⟨h0, by omega⟩]
    simp (disch := omega) only [jsetN_k, jrA_k, jrA_in, lawN_k, looksN_k]
    exact congrArg some (by omega)
  · rw [if_neg h] at e
    rw [e, if_neg (by omega)]
    have h2 : j < 0 ∨ 10 ≤ j := by omega
    simp (disch := omega) only [jsetN_k, jrA_k, jrA_out, lawN_k, looksN_k, hN]
theorem shopN_30 {b j : Int} {N : jN} (hN : N (b + 30) j = none) : shopN b N (b + 30) j = if 0 ≤ j ∧ 0 ≤ jtpS 30 j then some (b + jtpS 30 j) else none := by
  have e : jtpS 30 j = if 0 ≤ j ∧ j < 6 then 31 + j else -1 := by
    unfold jtpS
    simp only [Int.reduceEq, if_false, if_true, or_false, or_true, false_or, true_or]
  unfold shopN shopN0
  by_cases h : 0 ≤ j ∧ j < 6
  · obtain ⟨h0, h1⟩ := h
    rw [if_pos ⟨h0, h1⟩] at e
    rw [e, if_pos ⟨h0, by omega⟩]
    simp (disch := omega) only [jsetN_k, jrA_k, jrA_in, lawN_k, looksN_k]
    exact congrArg some (by omega)
  · rw [if_neg h] at e
    rw [e, if_neg (by omega)]
    have h2 : j < 0 ∨ 6 ≤ j := by omega
    simp (disch := omega) only [jsetN_k, jrA_k, jrA_out, lawN_k, looksN_k, hN]
theorem shopN_37 {b j : Int} {N : jN} (hN : N (b + 37) j = none) : shopN b N (b + 37) j = if 0 ≤ j ∧ 0 ≤ jtpS 37 j then some (b + jtpS 37 j) else none := by
  have e : jtpS 37 j = if 0 ≤ j ∧ j < 4 then 38 + j else -1 := by
    unfold jtpS
    simp only [Int.reduceEq, if_false, if_true, or_false, or_true, false_or, true_or]
  unfold shopN shopN0
  by_cases h : 0 ≤ j ∧ j < 4
  · obtain ⟨h0, h1⟩ := h
    rw [if_pos ⟨h0, h1⟩] at e
    rw [e, if_pos ⟨h0, by omega⟩]
    simp (disch := omega) only [jsetN_k, jrA_k, jrA_in, lawN_k, looksN_k]
    exact congrArg some (by omega)
  · rw [if_neg h] at e
    rw [e, if_neg (by omega)]
    have h2 : j < 0 ∨ 4 ≤ j := by omega
    simp (disch := omega) only [jsetN_k, jrA_k, jrA_out, lawN_k, looksN_k, hN]
theorem shopN_42 {b j : Int} {N : jN} (hN : N (b + 42) j = none) : shopN b N (b + 42) j = if 0 ≤ j ∧ 0 ≤ jtpS 42 j then some (b + jtpS 42 j) else none := by
  have e : jtpS 42 j = if 0 ≤ j ∧ j < 12 then 43 + j else -1 := by
    unfold jtpS
    simp only [Int.reduceEq, if_false, if_true, or_false, or_true, false_or, true_or]
  unfold shopN shopN0
  by_cases h : 0 ≤ j ∧ j < 12
  · obtain ⟨h0, h1⟩ := h
    rw [if_pos ⟨h0, h1⟩] at e
    rw [e, if_pos ⟨h0, by omega⟩]
    simp (disch := omega) only [jsetN_k, jrA_k, jrA_in, lawN_k, looksN_k]
    exact congrArg some (by omega)
  · rw [if_neg h] at e
    rw [e, if_neg (by omega)]
    have h2 : j < 0 ∨ 12 ≤ j := by omega
    simp (disch := omega) only [jsetN_k, jrA_k, jrA_out, lawN_k, looksN_k, hN]
theorem shopN_none {b i j : Int} {N : jN} (h0 : 0 ≤ i) (h1 : i < 293) (hN : N (b + i) j = none) (g0 : i ≠ 0) (g1 : i ≠ 1) (g6 : i ≠ 6) (g11 : i ≠ 11) (g15 : i ≠ 15) (g16 : i ≠ 16) (g17 : i ≠ 17) (g18 : i ≠ 18) (g19 : i ≠ 19) (g30 : i ≠ 30) (g37 : i ≠ 37) (g42 : i ≠ 42) : shopN b N (b + i) j = if 0 ≤ j ∧ 0 ≤ jtpS i j then some (b + jtpS i j) else none := by
  unfold shopN shopN0
  simp (disch := omega) only [jsetN_k, jrA_k, lawN_k, looksN_k, hN]
  rw [if_neg (fun h => by
    have e : jtpS i j = -1 := by
      unfold jtpS
      rw [if_neg (by omega), if_neg (by omega), if_neg (by omega), if_neg (by omega), if_neg (by omega), if_neg (by omega), if_neg (by omega), if_neg (by omega), if_neg (by omega), if_neg (by omega), if_neg (by omega)]
    omega)]
theorem shopN_at {b i j : Int} {N : jN} (h0 : 0 ≤ i) (h1 : i < 293) (hN : N (b + i) j = none) : shopN b N (b + i) j = if 0 ≤ j ∧ 0 ≤ jtpS i j then some (b + jtpS i j) else none := by
  by_cases g0 : i = 0
  · subst g0
    exact (by rw [Int.add_zero] at hN ⊢; exact shopN_0 hN)
  by_cases g1 : i = 1
  · subst g1
    exact shopN_1 hN
  by_cases g6 : i = 6
  · subst g6
    exact shopN_6 hN
  by_cases g11 : i = 11
  · subst g11
    exact shopN_11 hN
  by_cases g15 : i = 15
  · subst g15
    exact shopN_15 hN
  by_cases g16 : i = 16
  · subst g16
    exact shopN_16 hN
  by_cases g17 : i = 17
  · subst g17
    exact shopN_17 hN
  by_cases g18 : i = 18
  · subst g18
    exact shopN_18 hN
  by_cases g19 : i = 19
  · subst g19
    exact shopN_19 hN
  by_cases g30 : i = 30
  · subst g30
    exact shopN_30 hN
  by_cases g37 : i = 37
  · subst g37
    exact shopN_37 hN
  by_cases g42 : i = 42
  · subst g42
    exact shopN_42 hN
  exact shopN_none h0 h1 hN g0 g1 g6 g11 g15 g16 g17 g18 g19 g30 g37 g42
