/-! BEST *** costs of sets are costs of assignments *** no program *** -/
noncomputable def mk (P : Nat → Prop) : Nat → Nat
  | 0 => 0
  | j + 1 => @ite _ (P j) (Classical.propDecidable _) (mk P j ||| 2 ^ j) (mk P j)
theorem mk_tb {P : Nat → Prop} : ∀ n j : Nat, (mk P n).testBit j = true ↔ j < n ∧ P j
  | 0, j => by
    rw [mk, Nat.zero_testBit]
    exact ⟨fun h => absurd h (by decide), fun h => absurd h.1 (Nat.not_lt_zero j)⟩
  | n + 1, j => by
    have ih := mk_tb (P := P) n j
    rw [mk]
    split
    · rename_i h
      rw [Nat.testBit_or, Nat.testBit_two_pow, Bool.or_eq_true, ih, decide_eq_true_eq]
      refine ⟨fun q => q.elim (fun z => ⟨by omega, z.2⟩) (fun z => ⟨by omega, by rw [← z]; exact h⟩), fun q => ?_⟩
      by_cases e : n = j
      · exact Or.inr e
      · exact Or.inl ⟨by omega, q.2⟩
    · rename_i h
      rw [ih]
      refine ⟨fun q => ⟨by omega, q.2⟩, fun q => ⟨?_, q.2⟩⟩
      by_cases e : j = n
      · rw [e] at q
        exact absurd q.2 h
      · omega
theorem sumS_split {f : Int → Int} {S q : Nat} (h : ∀ i, q.testBit i = true → S.testBit i = true) : ∀ n : Nat, sumS f n S = sumS f n (S ^^^ q) + sumS f n q
  | 0 => rfl
  | n + 1 => by
    have ih := sumS_split (f := f) h n
    rw [sumS, sumS, sumS, Nat.testBit_xor]
    by_cases e : S.testBit n = true
    · by_cases e2 : q.testBit n = true
      · rw [if_pos e, if_pos e2, if_neg (by rw [e, e2]; decide)]
        omega
      · rw [if_pos e, if_neg e2, if_pos (by rw [e, Bool.eq_false_iff.mpr e2]; decide)]
        omega
    · have e2 : ¬ q.testBit n = true := fun z => e (h n z)
      rw [if_neg e, if_neg e2, if_neg (by rw [Bool.eq_false_iff.mpr e, Bool.eq_false_iff.mpr e2]; decide)]
      omega
theorem sumS_sc {f g : Int → Int} {S : Nat} : ∀ n : Nat, (∀ j : Nat, j < n → S.testBit j = true → f j = g j) → sumS f n S = sumS g n S
  | 0, _ => rfl
  | n + 1, h => by
    have ih := sumS_sc (f := f) (g := g) (S := S) n (fun j a b => h j (by omega) b)
    rw [sumS, sumS, ih]
    by_cases e : S.testBit n = true
    · rw [if_pos e, if_pos e, h n (by omega) e]
    · rw [if_neg e, if_neg e]
/-- what item j costs on its rack -/
def itemK (w steps : Int → Int) (y : Int → Int) (j : Int) : Int := 10000000 * (w j * steps (y j)) + y j * FIG j
theorem keyS_r {w steps y : Int → Int} {r : Int} {q : Nat} : ∀ n : Nat, (∀ j : Nat, j < n → q.testBit j = true → y j = r) → sumS (itemK w steps y) n q = 10000000 * sumS w n q * steps r + r * sumS FIG n q
  | 0, _ => by
    rw [sumS, sumS, sumS]
    simp
  | n + 1, h => by
    have ih := keyS_r (w := w) (steps := steps) (y := y) n (fun j a b => h j (by omega) b)
    rw [sumS, sumS, sumS]
    by_cases e : q.testBit n = true
    · rw [if_pos e, if_pos e, if_pos e, ih, itemK, h n (by omega) e, Int.mul_add, Int.add_mul, Int.mul_add, Int.mul_assoc 10000000 (w n) (steps r)]
      omega
    · rw [if_neg e, if_neg e, if_neg e, ih]
/-- the items of S on rack r -/
def OnR (y : Int → Int) (S : Nat) (r : Int) (j : Nat) : Prop := S.testBit j = true ∧ y j = r
def FeasS (sz room : Int → Int) (y : Int → Int) (n R S : Nat) : Prop := (∀ j : Nat, S.testBit j = true → 0 ≤ y j ∧ y j < R) ∧ ∀ r : Nat, r < R → mk (OnR y S r) n = 0 ∨ sumS sz n (mk (OnR y S r) n) ≤ room r
theorem ach_of {sz w room steps y : Int → Int} {n : Nat} : ∀ (R S : Nat), S < 2 ^ n → FeasS sz room y n R S → AchB (sumS sz n) (sumS w n) (sumS FIG n) room steps R S (sumS (itemK w steps y) n S)
  | 0, S, hS, h => by
    have e : S = 0 := by
      apply Nat.eq_of_testBit_eq
      intro i
      rw [Nat.zero_testBit]
      cases hc : S.testBit i with
      | false => rfl
      | true =>
        have := h.1 i hc
        omega
    rw [e]
    exact ⟨rfl, sumS_0 n⟩
  | R + 1, S, hS, h => by
    have hb : ∀ i, (mk (OnR y S R) n).testBit i = true → S.testBit i = true := fun i hi => ((mk_tb n i).mp hi).2.1
    have hq := sub_of hb
    have hx : S ^^^ mk (OnR y S R) n < 2 ^ n := by
      have := sub_xor n _ S hS hq
      omega
    have hxt : ∀ i, (S ^^^ mk (OnR y S R) n).testBit i = true ↔ S.testBit i = true ∧ y i ≠ R := fun i => by
      rw [Nat.testBit_xor]
      have hm := mk_tb (P := OnR y S R) n i
      constructor
      · intro hi
        cases hc : S.testBit i with
        | false =>
          cases hd : (mk (OnR y S R) n).testBit i with
          | false => rw [hc, hd] at hi; exact absurd hi (by decide)
          | true => rw [hb i hd] at hc; exact absurd hc (by decide)
        | true =>
          refine ⟨rfl, fun e => ?_⟩
          have hin : i < n := by
            by_cases z : i < n
            · exact z
            · rw [tb_low hS (by omega)] at hc
              exact absurd hc (by decide)
          rw [hc, hm.mpr ⟨hin, hc, e⟩] at hi
          exact absurd hi (by decide)
      · intro ⟨a, b⟩
        rw [a, Bool.eq_false_iff.mpr (fun z => b (hm.mp z).2.2)]
        rfl
    refine ⟨mk (OnR y S R) n, hq, h.2 R (by omega), sumS (itemK w steps y) n (S ^^^ mk (OnR y S R) n), ach_of R _ hx ⟨fun j hj => ?_, fun r hr => ?_⟩, ?_⟩
    · have z := (hxt j).mp hj
      have := h.1 j z.1
      have := z.2
      omega
    · have e : mk (OnR y (S ^^^ mk (OnR y S R) n) r) n = mk (OnR y S r) n := by
        apply Nat.eq_of_testBit_eq
        intro i
        rw [Bool.eq_iff_iff, mk_tb, mk_tb]
        refine and_congr Iff.rfl ⟨fun z => ⟨((hxt i).mp z.1).1, z.2⟩, fun z => ⟨(hxt i).mpr ⟨z.1, by have := z.2; omega⟩, z.2⟩⟩
      rw [e]
      exact h.2 r (by omega)
    · rw [sumS_split hb n, keyS_r (w := w) (steps := steps) (y := y) (r := R) (q := mk (OnR y S R) n) n (fun j _ hj => ((mk_tb n j).mp hj).2.2)]
      omega
