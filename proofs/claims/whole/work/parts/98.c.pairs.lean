/-! BEST *** room and cost by the first items *** no program *** -/
theorem sumS_tot2 {f : Int → Int} {P : Nat → Prop} [DecidablePred P] {S : Nat} : ∀ n : Nat, (∀ j : Nat, j < n → (S.testBit j = true ↔ P j)) → sumS f n S = totS (fun k => if P k.toNat then f k else 0) n
  | 0, _ => rfl
  | n + 1, h => by
    have ih := sumS_tot2 (f := f) (P := P) n (fun j a => h j (by omega))
    have q := h n (by omega)
    rw [sumS, totS, ih]
    show _ = _ + (if P ((n : Int).toNat) then f n else 0)
    rw [show ((n : Int).toNat) = n by omega]
    by_cases e : S.testBit n = true
    · rw [if_pos e, if_pos (q.mp e)]
    · rw [if_neg e, if_neg (fun z => e (q.mpr z))]
      omega
theorem tot_mono {f : Int → Int} {m : Nat} : ∀ n : Nat, m ≤ n → (∀ j : Int, 0 ≤ j → j < n → 0 ≤ f j) → totS f m ≤ totS f n
  | 0, h, _ => by
    rw [show m = 0 by omega]
    exact Int.le_refl _
  | n + 1, h, hf => by
    by_cases e : m = n + 1
    · rw [e]
      exact Int.le_refl _
    · have ih := tot_mono n (show m ≤ n by omega) (fun j a b => hf j a (by omega))
      have q := hf n (by omega) (by omega)
      rw [totS]
      omega
/-- what lies on r of the first m items -/
def placed (sz y : Int → Int) (r : Int) (m : Nat) : Int := totS (fun k => if y k = r then sz k else 0) m
theorem on_sum {sz y : Int → Int} {n : Nat} {r : Int} : sumS sz n (mk (OnR y (2 ^ n - 1) r) n) = placed sz y r n := by
  rw [sumS_tot2 (P := fun j => y j = r) n (fun j hj => by
    rw [mk_tb]
    exact ⟨fun q => q.2.2, fun q => ⟨hj, full_tb.mpr hj, q⟩⟩)]
  unfold placed
  refine tot_cong n (fun j a b => ?_)
  show (if y ((j.toNat : Nat) : Int) = r then sz j else 0) = _
  rw [show ((j.toNat : Nat) : Int) = j by omega]
theorem placed_nn {sz y : Int → Int} {r : Int} {m n : Nat} (h : m ≤ n) (hs : ∀ j : Int, 0 ≤ j → j < n → 0 ≤ sz j) : placed sz y r m ≤ placed sz y r n := by
  unfold placed
  refine tot_mono n h (fun j a b => ?_)
  have := hs j a b
  show 0 ≤ if y j = r then sz j else 0
  split <;> omega
theorem feas_room {sz room y : Int → Int} {n R j : Nat} (h : FeasS sz room y n R (2 ^ n - 1)) (hj : j < n) (hs : ∀ k : Int, 0 ≤ k → k < n → 0 ≤ sz k) : placed sz y (y j) (j + 1) ≤ room (y j) := by
  have hb := h.1 j (full_tb.mpr hj)
  have q := h.2 (y j).toNat (by omega)
  rw [show (((y j).toNat : Nat) : Int) = y j by omega, on_sum] at q
  have m := placed_nn (sz := sz) (y := y) (r := y j) (show j + 1 ≤ n by omega) hs
  rcases q with q | q
  · have z := (mk_tb (P := OnR y (2 ^ n - 1) (y j)) n j).mpr ⟨hj, full_tb.mpr hj, rfl⟩
    rw [q, Nat.zero_testBit] at z
    exact absurd z (by decide)
  · omega
