/-! BEST *** the search, in words *** no program *** -/
/-- y comes ahead of the point: smaller at the first difference ahead of j, or no difference there and not behind s j -/
def Bef (j : Int) (s y : Int → Int) : Prop := (∃ i : Int, (0 ≤ i ∧ i < j) ∧ (∀ k : Int, 0 ≤ k → k < i → y k = s k) ∧ y i < s i) ∨ ((∀ k : Int, 0 ≤ k → k < j → y k = s k) ∧ y j ≤ s j)
def BestOk (F : (Int → Int) → Prop) (cost : (Int → Int) → Int) (n : Nat) (j : Int) (s : Int → Int) (b : Int) (vec : Int → Int) : Prop := (b = -1 ∧ ∀ y, F y → ¬ Bef j s y) ∨ (b ≠ -1 ∧ F vec ∧ Bef j s vec ∧ b = cost vec ∧ ∀ y, F y → Bef j s y → cost vec < cost y ∨ (cost vec = cost y ∧ LexLe vec y n))
section
variable {F : (Int → Int) → Prop} {cost : (Int → Int) → Int} {n : Nat} {j b : Int} {s t vec : Int → Int}
theorem BestOk.cong (h : BestOk F cost n j s b vec) {j2 : Int} (e : ∀ y, F y → (Bef j s y ↔ Bef j2 t y)) : BestOk F cost n j2 t b vec := by
  rcases h with ⟨a, c⟩ | ⟨a, c, d, f, g⟩
  · exact Or.inl ⟨a, fun y hy hb => c y hy ((e y hy).mpr hb)⟩
  · exact Or.inr ⟨a, c, (e vec c).mp d, f, fun y hy hb => g y hy ((e y hy).mpr hb)⟩
theorem bef_next (h1 : ∀ i : Int, 0 ≤ i → i < j → t i = s i) (h2 : t j = s j + 1) (y : Int → Int) : Bef j t y ↔ Bef j s y ∨ ((∀ k : Int, 0 ≤ k → k < j → y k = s k) ∧ y j = s j + 1) := by
  constructor
  · rintro (⟨i, a, b, c⟩ | ⟨a, b⟩)
    · refine Or.inl (Or.inl ⟨i, a, fun k p q => ?_, ?_⟩)
      · rw [b k p q, h1 k p (by omega)]
      · rw [← h1 i a.1 a.2]
        exact c
    · have a2 : ∀ k : Int, 0 ≤ k → k < j → y k = s k := fun k p q => by rw [a k p q, h1 k p q]
      by_cases e : y j ≤ s j
      · exact Or.inl (Or.inr ⟨a2, e⟩)
      · exact Or.inr ⟨a2, by omega⟩
  · rintro ((⟨i, a, b, c⟩ | ⟨a, b⟩) | ⟨a, b⟩)
    · refine Or.inl ⟨i, a, fun k p q => ?_, ?_⟩
      · rw [b k p q, h1 k p (by omega)]
      · rw [h1 i a.1 a.2]
        exact c
    · exact Or.inr ⟨fun k p q => by rw [a k p q, h1 k p q], by omega⟩
    · exact Or.inr ⟨fun k p q => by rw [a k p q, h1 k p q], by omega⟩
theorem bef_lex {y : Int → Int} (hj : 0 ≤ j ∧ j < n) (h : Bef j s vec) (h1 : ∀ k : Int, 0 ≤ k → k < j → y k = s k) (h2 : y j = s j + 1) : LexLe vec y n := by
  rcases h with ⟨i, a, b, c⟩ | ⟨a, b⟩
  · exact Or.inr ⟨i, by omega, fun k p q => by rw [b k p q, h1 k p (by omega)], by rw [h1 i a.1 a.2]; exact c⟩
  · exact Or.inr ⟨j, hj, fun k p q => by rw [a k p q, h1 k p q], by omega⟩
/-- nothing with the next rack comes first -/
theorem BestOk.skip (h : BestOk F cost n j s b vec) (hj : 0 ≤ j ∧ j < n) (h1 : ∀ i : Int, 0 ≤ i → i < j → t i = s i) (h2 : t j = s j + 1) (hno : ∀ y, F y → (∀ k : Int, 0 ≤ k → k < j → y k = s k) → y j = s j + 1 → b ≠ -1 ∧ b ≤ cost y) : BestOk F cost n j t b vec := by
  rcases h with ⟨a, c⟩ | ⟨a, c, d, f, g⟩
  · refine Or.inl ⟨a, fun y hy hb => ?_⟩
    rcases (bef_next h1 h2 y).mp hb with z | ⟨z, w⟩
    · exact c y hy z
    · exact (hno y hy z w).1 a
  · refine Or.inr ⟨a, c, (bef_next h1 h2 vec).mpr (Or.inl d), f, fun y hy hb => ?_⟩
    rcases (bef_next h1 h2 y).mp hb with z | ⟨z, w⟩
    · exact g y hy z
    · have q := (hno y hy z w).2
      by_cases e : cost vec < cost y
      · exact Or.inl e
      · exact Or.inr ⟨by omega, bef_lex hj d z w⟩
/-- all racks tried: one item back -/
theorem BestOk.up (h : BestOk F cost n j s b vec) (hj : 0 < j) (hF : ∀ y, F y → y j ≤ s j) : BestOk F cost n (j - 1) s b vec := by
  refine h.cong (fun y hy => ⟨?_, ?_⟩)
  · rintro (⟨i, a, b, c⟩ | ⟨a, b⟩)
    · by_cases e : i = j - 1
      · rw [e] at b c
        exact Or.inr ⟨b, by omega⟩
      · exact Or.inl ⟨i, by omega, b, c⟩
    · exact Or.inr ⟨fun k p q => a k p (by omega), by rw [a (j - 1) (by omega) (by omega)]; exact Int.le_refl _⟩
  · rintro (⟨i, a, b, c⟩ | ⟨a, b⟩)
    · exact Or.inl ⟨i, by omega, b, c⟩
    · by_cases e : y (j - 1) = s (j - 1)
      · refine Or.inr ⟨fun k p q => ?_, hF y hy⟩
        by_cases e2 : k = j - 1
        · rw [e2]
          exact e
        · exact a k p (by omega)
      · exact Or.inl ⟨j - 1, by omega, a, by omega⟩
/-- an item more -/
theorem BestOk.down (h : BestOk F cost n j s b vec) (hj : 0 ≤ j) (h1 : ∀ i : Int, 0 ≤ i → i < j → t i = s i) (h2 : t j = s j + 1) (h3 : t (j + 1) = -1) (hF : ∀ y, F y → 0 ≤ y (j + 1)) : BestOk F cost n (j + 1) t b vec := by
  refine h.cong (fun y hy => ⟨?_, ?_⟩)
  · rintro (⟨i, a, b, c⟩ | ⟨a, b⟩)
    · exact Or.inl ⟨i, by omega, fun k p q => by rw [b k p q, h1 k p (by omega)], by rw [h1 i a.1 a.2]; exact c⟩
    · exact Or.inl ⟨j, by omega, fun k p q => by rw [a k p q, h1 k p q], by omega⟩
  · rintro (⟨i, a, b, c⟩ | ⟨a, b⟩)
    · by_cases e : i = j
      · rw [e] at b c
        exact Or.inr ⟨fun k p q => by rw [b k p q, h1 k p q], by omega⟩
      · exact Or.inl ⟨i, by omega, fun k p q => by rw [b k p q, h1 k p (by omega)], by rw [← h1 i a.1 (by omega)]; exact c⟩
    · have := hF y hy
      omega
/-- all are placed, and it costs less -/
theorem BestOk.leaf (h : BestOk F cost n j s b vec) (hj : 0 ≤ j ∧ j + 1 = n) (h1 : ∀ i : Int, 0 ≤ i → i < j → t i = s i) (h2 : t j = s j + 1) (hF : F t) (hc : b = -1 ∨ cost t < b) (hn : cost t ≠ -1) (hx : ∀ y z, (∀ k : Int, 0 ≤ k → k < n → y k = z k) → cost y = cost z) : BestOk F cost n j t (cost t) t := by
  refine Or.inr ⟨hn, hF, Or.inr ⟨fun k p q => rfl, Int.le_refl _⟩, rfl, fun y hy hb => ?_⟩
  rcases (bef_next h1 h2 y).mp hb with z | ⟨z, w⟩
  · rcases h with ⟨a, c⟩ | ⟨a, c, d, f, g⟩
    · exact absurd z (c y hy)
    · have q := g y hy z
      rcases hc with hc | hc
      · exact absurd hc a
      · refine Or.inl ?_
        rcases q with q | q <;> omega
  · have e : ∀ k : Int, 0 ≤ k → k < n → t k = y k := fun k p q => by
      by_cases e : k = j
      · rw [e, h2, w]
      · rw [h1 k p (by omega), z k p (by omega)]
    exact Or.inr ⟨hx t y e, Or.inl e⟩
end
