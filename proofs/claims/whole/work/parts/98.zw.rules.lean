/-! THE FIRST CELLS: the invariant -/
def FM : jM := modelM (classM zM)
theorem fm_0 {k j : Int} (hk : k ≠ 6 ∧ k ≠ 11 ∧ k ≠ 300 ∧ k ≠ 305 ∧ k ≠ 593 ∧ k ≠ 598 ∧ k ≠ 882 ∧ k ≠ 889 ∧ k ≠ 895 ∧ k ≠ 897 ∧ k ≠ 899 ∧ k ≠ 901 ∧ k ≠ 928 ∧ k ≠ 929 ∧ k ≠ 946) : FM k j = 0 := by
  unfold FM modelM classM plannerM readerM shopM lawM rowM
  simp (disch := omega) only [jset_k]
  rfl
theorem fm_6 {j : Int} : FM 6 j = if j = 5 then 2 else if j = 3 then 52 else 0 := by
  unfold FM modelM classM plannerM readerM shopM lawM rowM
  unfold jset
  simp only [Int.reduceAdd, Int.reduceEq, false_and, true_and, if_false]
  rfl
theorem fm_11 {j : Int} : FM 11 j = if j = 5 then 2 else if j = 3 then 52 else 0 := by
  unfold FM modelM classM plannerM readerM shopM lawM rowM
  unfold jset
  simp only [Int.reduceAdd, Int.reduceEq, false_and, true_and, if_false]
  rfl
theorem fm_929 {j : Int} : FM 929 j = if j = 30 then 2 else if j = 28 then 52 else 0 := by
  unfold FM modelM classM plannerM readerM shopM lawM rowM
  unfold jset
  simp only [Int.reduceAdd, Int.reduceEq, false_and, true_and, if_false]
  rfl
theorem fm_928 {j : Int} : FM 928 j = if j = 17 then -1 else 0 := by
  unfold FM modelM classM plannerM readerM shopM lawM rowM
  unfold jset
  simp only [Int.reduceAdd, Int.reduceEq, false_and, true_and, if_false]
  rfl
theorem fm_882 {j : Int} : FM 882 j = if j = 5 then -1 else 0 := by
  unfold FM modelM classM plannerM readerM shopM lawM rowM
  unfold jset
  simp only [Int.reduceAdd, Int.reduceEq, false_and, true_and, if_false]
  rfl
theorem fm_946 {j : Int} : FM 946 j = if j = 3 then -1 else if j = 2 then -1 else if j = 1 then -1 else if j = 0 then -1 else 0 := by
  unfold FM modelM classM plannerM readerM shopM lawM rowM
  unfold jset
  simp only [Int.reduceAdd, Int.reduceEq, false_and, true_and, if_false]
  rfl
theorem fm_895 {j : Int} : FM 895 j = if j = 0 then -1 else 0 := by
  unfold FM modelM classM plannerM readerM shopM lawM rowM
  unfold jset
  simp only [Int.reduceAdd, Int.reduceEq, false_and, true_and, if_false]
  rfl
theorem fm_897 {j : Int} : FM 897 j = if j = 0 then -1 else 0 := by
  unfold FM modelM classM plannerM readerM shopM lawM rowM
  unfold jset
  simp only [Int.reduceAdd, Int.reduceEq, false_and, true_and, if_false]
  rfl
theorem fm_899 {j : Int} : FM 899 j = if j = 0 then -1 else 0 := by
  unfold FM modelM classM plannerM readerM shopM lawM rowM
  unfold jset
  simp only [Int.reduceAdd, Int.reduceEq, false_and, true_and, if_false]
  rfl
theorem fm_901 {j : Int} : FM 901 j = if j = 0 then -1 else 0 := by
  unfold FM modelM classM plannerM readerM shopM lawM rowM
  unfold jset
  simp only [Int.reduceAdd, Int.reduceEq, false_and, true_and, if_false]
  rfl
theorem fa_0 {j : Int} (h : j ≠ 28 ∧ j ≠ 30) : FM 929 j = 0 := by
  rw [fm_929, if_neg h.2, if_neg h.1]
theorem first_RInv : RInv (FM 929) := by
  have e : ∀ j : Int, j ≠ 28 ∧ j ≠ 30 → FM 929 j = 0 := fun j h => fa_0 h
  have e28 : FM 929 28 = 52 := by rw [fm_929]; rfl
  have e30 : FM 929 30 = 2 := by rw [fm_929]; rfl
  refine ⟨?_, ?_, ?_, fun k a b => ?_, fun k a b => ?_, fun k a b => ?_, fun p q a b c => ?_, fun k a b => ?_, fun k a b => ?_, fun k a b => ?_, ?_, fun k a b => ?_⟩
  · simp (disch := omega) only [RCnt, e]
    decide
  · refine ⟨?_, fun i a b => ?_, fun i j a b c => ?_, ?_, ?_, ?_, ?_, ?_, ?_⟩
    · simp (disch := omega) only [e]; omega
    · simp (disch := omega) only [e] at b; omega
    · simp (disch := omega) only [e] at c; omega
    · simp (disch := omega) only [Int.reduceAdd, e]; omega
    · simp (disch := omega) only [Int.reduceAdd, e]; omega
    · simp (disch := omega) only [Int.reduceAdd, e]; omega
    · simp (disch := omega) only [Int.reduceAdd, e28]; omega
    · simp (disch := omega) only [Int.reduceAdd, e]; omega
    · simp (disch := omega) only [Int.reduceAdd, e30]; omega
  · refine ⟨?_, fun i a b => ?_, fun i j a b c => ?_, ?_, ?_, ?_, ?_, ?_, ?_⟩
    · simp (disch := omega) only [e]; omega
    · simp (disch := omega) only [e] at b; omega
    · simp (disch := omega) only [e] at c; omega
    · simp (disch := omega) only [Int.reduceAdd, e]; omega
    · simp (disch := omega) only [Int.reduceAdd, e]; omega
    · simp (disch := omega) only [Int.reduceAdd, e]; omega
    · simp (disch := omega) only [Int.reduceAdd, e]; omega
    · simp (disch := omega) only [Int.reduceAdd, e]; omega
    · simp (disch := omega) only [Int.reduceAdd, e]; omega
  · simp (disch := omega) only [e] at b; omega
  · simp (disch := omega) only [e] at b; omega
  · simp (disch := omega) only [e] at b; omega
  · simp (disch := omega) only [e] at c; omega
  · simp (disch := omega) only [e] at b; omega
  · simp (disch := omega) only [e] at b; omega
  · simp (disch := omega) only [e]; omega
  · simp (disch := omega) only [e]; omega
  · simp (disch := omega) only [e] at b; omega
theorem first_CInv : CInv (cv FM 1) (FM 929) := by
  have e : ∀ j : Int, j ≠ 28 ∧ j ≠ 30 → FM 929 j = 0 := fun j h => fa_0 h
  have z : ∀ k j : Int, 0 ≤ k → k < 200 → k ≠ 5 → k ≠ 10 → cv FM 1 k j = 0 := fun k j h0 h1 h2 h3 => fm_0 (by omega)
  refine ⟨?_, ⟨?_, ?_, fun i a b => ?_, fun i a b => ?_⟩, ⟨?_, ?_, fun i a b => ?_, fun i a b => ?_⟩, fun k a b => ?_, fun k a b => ?_, fun k a b => ?_, fun k a b => ?_, fun k a b => ?_, fun w a b => ?_, fun k j a b c d => ?_, fun k a b => ?_, ?_, ?_, ?_, fun j a b => ?_, fun i a b => ?_⟩
  · simp (disch := omega) only [CCnt, e, z, and_self]
  · simp (disch := omega) only [e, z]
  · simp (disch := omega) only [Int.reduceAdd, e, z]
  · simp (disch := omega) only [e] at b; omega
  · have h6 : cv FM 1 (1 + 4) i = FM 6 i := rfl
    rw [h6, fm_6, fm_929]
    by_cases c3 : i = 3
    · subst c3; rfl
    · by_cases c5 : i = 5
      · subst c5; rfl
      · rw [if_neg c5, if_neg c3, if_neg (by omega), if_neg (by omega)]
  · simp (disch := omega) only [e, z]
  · simp (disch := omega) only [Int.reduceAdd, e, z]
  · simp (disch := omega) only [e] at b; omega
  · have h6 : cv FM 1 (6 + 4) i = FM 11 i := rfl
    rw [h6, fm_11, if_neg (by omega), if_neg (by omega), e _ (by omega)]
  · simp (disch := omega) only [e] at b; omega
  · simp (disch := omega) only [e] at b; omega
  · simp (disch := omega) only [e] at b; omega
  · simp (disch := omega) only [e] at b; omega
  · simp (disch := omega) only [e] at b; omega
  · simp (disch := omega) only [e, z, and_self]
  · simp (disch := omega) only [e, z]
  · simp (disch := omega) only [e] at b; omega
  · simp (disch := omega) only [e, z]
  · simp (disch := omega) only [Int.reduceAdd, z]
  · simp (disch := omega) only [z]; omega
  · simp (disch := omega) only [e] at b; omega
  · simp (disch := omega) only [z] at b; omega
theorem first_Inv : Inv FM := by
  refine ⟨?_, first_RInv, first_CInv, ⟨?_, ?_, fun i a b => ?_⟩, ⟨?_, ?_, ?_⟩, fun r a b => Or.inl ?_, fun q a b => ⟨?_, ?_, fun h => ?_⟩⟩
  · rw [fm_928]; rfl
  · rw [fm_928, fm_0 (by omega)]; rfl
  · rw [fm_928]; decide
  · rw [fm_928, if_neg (by omega)] at b; omega
  · rw [fm_928, fm_882]; rfl
  · rw [fm_928, fm_882]; rfl
  · exact fm_0 (by omega)
  · have c : r = 0 ∨ r = 1 ∨ r = 2 ∨ r = 3 := by omega
    rcases c with c | c | c | c <;> subst c
    · exact ⟨fm_895.trans rfl, fm_946.trans rfl⟩
    · exact ⟨fm_897.trans rfl, fm_946.trans rfl⟩
    · exact ⟨fm_899.trans rfl, fm_946.trans rfl⟩
    · exact ⟨fm_901.trans rfl, fm_946.trans rfl⟩
  · rw [fm_0 (by omega), fm_0 (by omega)]
  · rw [fm_0 (by omega)]; omega
  · rw [fm_0 (by omega)] at h; omega
