/-! BEST *** what fits *** no program *** -/
theorem feas_of {sz room y : Int → Int} {n R : Nat} (hy : ∀ k : Int, 0 ≤ k → k < n → 0 ≤ y k ∧ y k < R) (hr : ∀ k : Int, 0 ≤ k → k < n → placed sz y (y k) n ≤ room (y k)) : FeasS sz room y n R (2 ^ n - 1) := by
  refine ⟨fun j hj => hy j (by omega) (by have := full_tb.mp hj; omega), fun r _ => ?_⟩
  rw [on_sum]
  by_cases e : ∃ k : Nat, k < n ∧ y k = r
  · obtain ⟨k, a, b⟩ := e
    have q := hr k (by omega) (by omega)
    rw [b] at q
    exact Or.inr q
  · refine Or.inl (Nat.eq_of_testBit_eq (fun i => ?_))
    rw [Nat.zero_testBit]
    refine Bool.eq_false_iff.mpr (fun z => e ?_)
    have q := (mk_tb n i).mp z
    exact ⟨i, q.1, q.2.2⟩
theorem placed_s {sz y : Int → Int} {r : Int} {m : Nat} : placed sz y r (m + 1) = placed sz y r m + (if y m = r then sz m else 0) := rfl
theorem placed_cong {sz y z : Int → Int} {r : Int} {m : Nat} (h : ∀ k : Int, 0 ≤ k → k < m → y k = z k) : placed sz y r m = placed sz z r m := tot_cong m (fun j a b => by simp only [h j a b])
