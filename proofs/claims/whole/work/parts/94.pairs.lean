/-! BEST *** costs of sets are costs of assignments, back *** no program *** -/
theorem ach_to {sz w room steps : Int → Int} {n : Nat} : ∀ (R S : Nat) (c : Int), S < 2 ^ n → AchB (sumS sz n) (sumS w n) (sumS FIG n) room steps R S c → ∃ y : Int → Int, FeasS sz room y n R S ∧ c = sumS (itemK w steps y) n S
  | 0, S, c, hS, h => by
    obtain ⟨a, b⟩ := h
    subst a
    refine ⟨fun _ => 0, ⟨fun j hj => ?_, fun r hr => absurd hr (Nat.not_lt_zero r)⟩, ?_⟩
    · rw [Nat.zero_testBit] at hj
      exact absurd hj (by decide)
    · rw [sumS_0]
      exact b
  | R + 1, S, c, hS, h => by
    obtain ⟨q, hq, hz, d, ha, hc⟩ := h
    have hb : ∀ i, q.testBit i = true → S.testBit i = true := fun i hi => sub_bits hq hi
    have hx : S ^^^ q < 2 ^ n := by
      have := sub_xor n _ S hS hq
      omega
    have hin : ∀ i, S.testBit i = true → i < n := fun i hi => by
      by_cases z : i < n
      · exact z
      · rw [tb_low hS (by omega)] at hi
        exact absurd hi (by decide)
    have hxt : ∀ i, (S ^^^ q).testBit i = true ↔ S.testBit i = true ∧ ¬ q.testBit i = true := fun i => by
      have := hb i
      rw [Nat.testBit_xor]
      cases hc2 : S.testBit i <;> cases hd : q.testBit i <;> simp
      rw [hd] at this
      rw [hc2] at this
      exact absurd (this rfl) (by decide)
    obtain ⟨y2, hf, hk⟩ := ach_to R (S ^^^ q) d hx ha
    have hy : ∀ j : Nat, (fun j : Int => if q.testBit j.toNat = true then (R : Int) else y2 j) (j : Int) = if q.testBit j = true then (R : Int) else y2 j := fun j => rfl
    refine ⟨fun j => if q.testBit j.toNat = true then (R : Int) else y2 j, ⟨fun j hj => ?_, fun r hr => ?_⟩, ?_⟩
    · rw [hy]
      by_cases e : q.testBit j = true
      · rw [if_pos e]
        omega
      · rw [if_neg e]
        have := hf.1 j ((hxt j).mpr ⟨hj, e⟩)
        omega
    · by_cases e : r = R
      · have e2 : mk (OnR (fun j => if q.testBit j.toNat = true then (R : Int) else y2 j) S r) n = q := by
          apply Nat.eq_of_testBit_eq
          intro i
          rw [Bool.eq_iff_iff, mk_tb]
          constructor
          · intro ⟨_, a, b⟩
            rw [hy] at b
            by_cases z : q.testBit i = true
            · exact z
            · rw [if_neg z] at b
              have := hf.1 i ((hxt i).mpr ⟨a, z⟩)
              omega
          · intro z
            refine ⟨hin i (hb i z), hb i z, ?_⟩
            rw [hy, if_pos z, e]
        rw [e2, e]
        exact hz
      · have e2 : mk (OnR (fun j => if q.testBit j.toNat = true then (R : Int) else y2 j) S r) n = mk (OnR y2 (S ^^^ q) r) n := by
          apply Nat.eq_of_testBit_eq
          intro i
          rw [Bool.eq_iff_iff, mk_tb, mk_tb]
          refine and_congr Iff.rfl ⟨fun ⟨a, b⟩ => ?_, fun ⟨a, b⟩ => ?_⟩
          · rw [hy] at b
            by_cases z : q.testBit i = true
            · rw [if_pos z] at b
              omega
            · rw [if_neg z] at b
              exact ⟨(hxt i).mpr ⟨a, z⟩, b⟩
          · have z := (hxt i).mp a
            refine ⟨z.1, ?_⟩
            rw [hy, if_neg z.2]
            exact b
        rw [e2]
        exact hf.2 r (by omega)
    · have e1 : sumS (itemK w steps (fun j => if q.testBit j.toNat = true then (R : Int) else y2 j)) n (S ^^^ q) = sumS (itemK w steps y2) n (S ^^^ q) := sumS_sc n (fun j _ hj => by
        have z := (hxt j).mp hj
        unfold itemK
        rw [hy, if_neg z.2])
      have e2 := keyS_r (w := w) (steps := steps) (y := fun j => if q.testBit j.toNat = true then (R : Int) else y2 j) (r := R) (q := q) n (fun j _ hj => if_pos hj)
      rw [sumS_split hb n, e1, e2, ← hk, hc]
      omega
/-- the least key of an assignment of all n is what the racks' table holds -/
def KeyMin (sz w room steps : Int → Int) (n R : Nat) (y : Int → Int) : Prop := FeasS sz room y n R (2 ^ n - 1) ∧ ∀ z : Int → Int, FeasS sz room z n R (2 ^ n - 1) → sumS (itemK w steps y) n (2 ^ n - 1) ≤ sumS (itemK w steps z) n (2 ^ n - 1)
theorem lb_none {sz w room steps : Int → Int} {n R : Nat} {v : Int} (h : LB (sumS sz n) (sumS w n) (sumS FIG n) room steps R (2 ^ n - 1) v) (hz : ∀ z, ¬ FeasS sz room z n R (2 ^ n - 1)) : v = 4611686018427387904 := by
  have hp1 : 0 < 2 ^ n := Nat.pos_of_ne_zero (by simp)
  rcases h.1 with ⟨a, _⟩ | ⟨_, b, _⟩
  · exact a
  · obtain ⟨y, hy, _⟩ := ach_to R (2 ^ n - 1) v (by omega) b
    exact absurd hy (hz y)
theorem lb_some {sz w room steps y : Int → Int} {n R : Nat} {v : Int} (h : LB (sumS sz n) (sumS w n) (sumS FIG n) room steps R (2 ^ n - 1) v) (hy : KeyMin sz w room steps n R y) : v ≠ 4611686018427387904 ∧ v = sumS (itemK w steps y) n (2 ^ n - 1) := by
  have hp1 : 0 < 2 ^ n := Nat.pos_of_ne_zero (by simp)
  have ha := ach_of (w := w) (steps := steps) R (2 ^ n - 1) (by omega) hy.1
  rcases h.1 with ⟨_, b⟩ | ⟨a, b, c⟩
  · exact absurd ha (b _)
  · obtain ⟨z, hz, e⟩ := ach_to R (2 ^ n - 1) v (by omega) b
    have h1 := c _ ha
    have h2 := hy.2 z hz
    exact ⟨a, by omega⟩
