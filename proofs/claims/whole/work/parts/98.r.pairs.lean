/-! TEXTS *** the law: what a line keeps *** no program *** -/
theorem jor_in (a b : Int) : -2147483648 ≤ jor a b ∧ jor a b ≤ 2147483647 := by
  unfold jor
  have h1 := Int32.le_toInt (Int32.ofInt a ||| Int32.ofInt b)
  have h2 := Int32.toInt_lt (Int32.ofInt a ||| Int32.ofInt b)
  omega
section
variable {M : jM} {n : Int} {s z : PS}
/-- as PI, a token further if there is no fault -/
def PG (n : Int) (s z : PS) : Prop := PI n z ∧ s.1 ≤ z.1 ∧ (z.2.2.2.2.1 = 0 → s.2.1 ≤ z.1) ∧ z.2.2.2.2.2.2.1 = s.2.2.2.2.2.2.1 ∧ z.2.2.2.2.2.2.2.1 = s.2.2.2.2.2.2.2.1 ∧ (∀ i : Int, 31 ≤ i → z.2.2.2.2.2.2.2.2.2 i = s.2.2.2.2.2.2.2.2.2 i)
theorem PK.pg (h : PK n s z) (h2 : z.2.2.2.2.1 = 0 → s.2.1 ≤ z.1) : PG n s z := by
  have e := h.2.2.2
  refine ⟨h.1, h.2.1, h2, congrArg (fun z => z.1) e, congrArg (fun z => z.2.1) e, fun i _ => ?_⟩
  have ea : z.2.2.2.2.2.2.2.2.2 = s.2.2.2.2.2.2.2.2.2 := congrArg (fun z => z.2.2.2) e
  rw [ea]
theorem PK.pa (h : PK n s z) : z.2.2.2.2.2.2.2.2.2 = s.2.2.2.2.2.2.2.2.2 := congrArg (fun z => z.2.2.2) h.2.2.2
theorem pk_u6 (hT : RT M n) (hI : PI n s) (hw : s.2.2.2.2.1 = 0) : PK n s (pU6 (M 931) n s) ∧ s.2.1 ≤ (pU6 (M 931) n s).1 := by
  have h1 := pk_next hT hI hw
  have h2 : PK n (pU1 (M 931) n s) (pU2 (M 931) n s) := pk_read hT h1.1.1
  have h3 : PK n (pU2 (M 931) n s) (pU3 (M 931) n s) := pk_must hT h2.1
  have h4 : PK n (pU3 (M 931) n s) (pU4 (M 931) n s) := pk_read hT h3.1
  have h5 : PK n (pU4 (M 931) n s) (pU5 (M 931) n s) := pk_must hT h4.1
  have h6 : PK n (pU5 (M 931) n s) (pU6 (M 931) n s) := pk_read hT h5.1
  have h7 := (((h2.trans h3).trans h4).trans h5).trans h6
  exact ⟨h1.1.trans h7, Int.le_trans h1.2 h7.2.1⟩
theorem u6_ok (h : (pU6 (M 931) n s).2.2.2.2.1 = 0) : (s.2.2.2.2.2.2.2.2.2 0 = 0 → 1 ≤ (pU1 (M 931) n s).2.2.2.1) ∧ (s.2.2.2.2.2.2.2.2.2 0 ≠ 0 → s.2.2.2.2.2.2.2.2.2 (1 + s.2.2.2.2.2.2.2.2.2 0 - 1) + 1 ≤ (pU1 (M 931) n s).2.2.2.1) ∧ (pU1 (M 931) n s).2.2.2.1 ≤ 999 ∧ (0 ≤ (pU3 (M 931) n s).2.2.2.1 ∧ (pU3 (M 931) n s).2.2.2.1 ≤ 99) ∧ 1 ≤ (pU5 (M 931) n s).2.2.2.1 ∧ (pU5 (M 931) n s).2.2.2.1 ≤ 999 ∧ pU6 (M 931) n s = pNext (M 931) n (pU5 (M 931) n s) ∧ pU5 (M 931) n s = pNext (M 931) n (pU4 (M 931) n s) ∧ pU4 (M 931) n s = pNext (M 931) n (pU3 (M 931) n s) ∧ pU3 (M 931) n s = pNext (M 931) n (pU2 (M 931) n s) ∧ pU2 (M 931) n s = pNext (M 931) n (pU1 (M 931) n s) := by
  have g6 := read_ok (M := M) (n := n) (s := pU5 (M 931) n s) h
  have g5 := must_ok (M := M) (n := n) (s := pU4 (M 931) n s) g6.1
  have g4 := read_ok (M := M) (n := n) (s := pU3 (M 931) n s) g5.1
  have g3 := must_ok (M := M) (n := n) (s := pU2 (M 931) n s) g4.1
  have g2 := read_ok (M := M) (n := n) (s := pU1 (M 931) n s) g3.1
  refine ⟨fun e => ?_, fun e => ?_, g2.2.2.2.1, ⟨g4.2.2.1, g4.2.2.2.1⟩, g6.2.2.1, g6.2.2.2.1, g6.2.2.2.2, g5.2.2, g4.2.2.2.2, g3.2.2, g2.2.2.2.2⟩
  · have q := g2.2.2.1
    rw [if_pos e] at q
    exact q
  · have q := g2.2.2.1
    rw [if_neg e] at q
    exact q
theorem u7_law (hT : RT M n) (hI : PI n s) (hw : s.2.2.2.2.1 = 0) (h0 : s.2.2.2.2.2.2.2.2.2 0 ≠ 8) (h : (pU6 (M 931) n s).2.2.2.2.1 = 0) (hR : RLaw s.2.2.2.2.2.2.2.2.2 0) : RLaw (pU7 (M 931) n s).2.2.2.2.2.2.2.2.2 0 := by
  have k := pk_u6 hT hI hw
  have g := u6_ok h
  have ea : (pU6 (M 931) n s).2.2.2.2.2.2.2.2.2 = s.2.2.2.2.2.2.2.2.2 := k.1.pa
  obtain ⟨r1, r2, r3, r4⟩ := hR
  have f1 : ∀ i, i ≠ 0 → i ≠ 17 + s.2.2.2.2.2.2.2.2.2 0 → i ≠ 9 + s.2.2.2.2.2.2.2.2.2 0 → i ≠ 1 + s.2.2.2.2.2.2.2.2.2 0 → (pU7 (M 931) n s).2.2.2.2.2.2.2.2.2 i = s.2.2.2.2.2.2.2.2.2 i := fun i a b c d => by
    show upd1 (upd1 (upd1 (upd1 (pU6 (M 931) n s).2.2.2.2.2.2.2.2.2 _ _) _ _) _ _) 0 _ i = _
    rw [u2 a, u2 b, u2 c, u2 d, ea]
  have f0 : (pU7 (M 931) n s).2.2.2.2.2.2.2.2.2 0 = s.2.2.2.2.2.2.2.2.2 0 + 1 := by
    have e : (pU7 (M 931) n s).2.2.2.2.2.2.2.2.2 0 = (pU6 (M 931) n s).2.2.2.2.2.2.2.2.2 0 + 1 := by
          unfold pU7
          dsimp only
          exact u1
    rw [e, ea]
  have fu : (pU7 (M 931) n s).2.2.2.2.2.2.2.2.2 (1 + s.2.2.2.2.2.2.2.2.2 0) = (pU1 (M 931) n s).2.2.2.1 := by
    show upd1 (upd1 (upd1 (upd1 (pU6 (M 931) n s).2.2.2.2.2.2.2.2.2 _ _) _ _) _ _) 0 _ (1 + s.2.2.2.2.2.2.2.2.2 0) = _
    rw [u2 (by omega), u2 (by omega), u2 (by omega), u1]
  have ft : (pU7 (M 931) n s).2.2.2.2.2.2.2.2.2 (9 + s.2.2.2.2.2.2.2.2.2 0) = (pU3 (M 931) n s).2.2.2.1 := by
    show upd1 (upd1 (upd1 _ _ _) _ _) 0 _ (9 + s.2.2.2.2.2.2.2.2.2 0) = _
    rw [u2 (by omega), u2 (by omega), u1]
  have fp : (pU7 (M 931) n s).2.2.2.2.2.2.2.2.2 (17 + s.2.2.2.2.2.2.2.2.2 0) = (pU5 (M 931) n s).2.2.2.1 := by
    show upd1 (upd1 _ _ _) 0 _ (17 + s.2.2.2.2.2.2.2.2.2 0) = _
    rw [u2 (by omega), u1]
  refine ⟨by rw [f0]; omega, fun i a b => ?_, fun i j a b c => ?_, ?_⟩
  · rw [f0] at b
    rw [show (0 : Int) + 1 + i = 1 + i by omega, show (0 : Int) + 9 + i = 9 + i by omega, show (0 : Int) + 17 + i = 17 + i by omega]
    by_cases e : i = s.2.2.2.2.2.2.2.2.2 0
    · rw [e, fu, ft, fp]
      by_cases e0 : s.2.2.2.2.2.2.2.2.2 0 = 0
      · have := g.1 e0
        omega
      · have := g.2.1 e0
        have q := r2 (s.2.2.2.2.2.2.2.2.2 0 - 1) (by omega) (by omega)
        rw [show (0 : Int) + 1 + (s.2.2.2.2.2.2.2.2.2 0 - 1) = 1 + s.2.2.2.2.2.2.2.2.2 0 - 1 by omega] at q
        omega
    · rw [f1 _ (by omega) (by omega) (by omega) (by omega), f1 _ (by omega) (by omega) (by omega) (by omega), f1 _ (by omega) (by omega) (by omega) (by omega)]
      have q := r2 i a (by omega)
      rw [show (0 : Int) + 1 + i = 1 + i by omega, show (0 : Int) + 9 + i = 9 + i by omega, show (0 : Int) + 17 + i = 17 + i by omega] at q
      exact q
  · rw [f0] at c
    rw [show (0 : Int) + 1 + i = 1 + i by omega, show (0 : Int) + 1 + j = 1 + j by omega, f1 (1 + i) (by omega) (by omega) (by omega) (by omega)]
    by_cases e : j = s.2.2.2.2.2.2.2.2.2 0
    · rw [e, fu]
      have q2 := g.2.1 (by omega)
      by_cases e3 : i = s.2.2.2.2.2.2.2.2.2 0 - 1
      · rw [e3, show 1 + (s.2.2.2.2.2.2.2.2.2 0 - 1) = 1 + s.2.2.2.2.2.2.2.2.2 0 - 1 by omega]
        omega
      · have q := r3 i (s.2.2.2.2.2.2.2.2.2 0 - 1) a (by omega) (by omega)
        rw [show (0 : Int) + 1 + i = 1 + i by omega, show (0 : Int) + 1 + (s.2.2.2.2.2.2.2.2.2 0 - 1) = 1 + s.2.2.2.2.2.2.2.2.2 0 - 1 by omega] at q
        omega
    · rw [f1 (1 + j) (by omega) (by omega) (by omega) (by omega)]
      have q := r3 i j a b (by omega)
      rw [show (0 : Int) + 1 + i = 1 + i by omega, show (0 : Int) + 1 + j = 1 + j by omega] at q
      exact q
  · rw [f1 (0 + 25) (by omega) (by omega) (by omega) (by omega), f1 (0 + 26) (by omega) (by omega) (by omega) (by omega), f1 (0 + 27) (by omega) (by omega) (by omega) (by omega), f1 (0 + 28) (by omega) (by omega) (by omega) (by omega), f1 (0 + 29) (by omega) (by omega) (by omega) (by omega), f1 (0 + 30) (by omega) (by omega) (by omega) (by omega)]
    exact r4
theorem pg_upto (hT : RT M n) (hI : PI n s) (hw : s.2.2.2.2.1 = 0) : PG n s (pUpto (M 931) n s) := by
  unfold pUpto
  by_cases h0 : s.2.2.2.2.2.2.2.2.2 0 = 8
  · rw [if_pos h0]
    have q := pk_fail (f := 4) (by omega) hI
    exact q.1.pg (fun e => absurd e q.2)
  · rw [if_neg h0]
    have k := pk_u6 hT hI hw
    by_cases h6 : (pU6 (M 931) n s).2.2.2.2.1 ≠ 0
    · rw [if_pos h6]
      exact k.1.pg (fun e => absurd e h6)
    · rw [if_neg h6]
      have g := u6_ok (M := M) (n := n) (s := s) (by omega)
      have ea : (pU6 (M 931) n s).2.2.2.2.2.2.2.2.2 = s.2.2.2.2.2.2.2.2.2 := k.1.pa
      obtain ⟨h1, h2, h3, h4, h5, h6, h7, h8, h9, h10⟩ := k.1.1
      rw [ea] at h7 h8 h9 h10
      have f0 : (pU7 (M 931) n s).2.2.2.2.2.2.2.2.2 0 = s.2.2.2.2.2.2.2.2.2 0 + 1 := by
        have e : (pU7 (M 931) n s).2.2.2.2.2.2.2.2.2 0 = (pU6 (M 931) n s).2.2.2.2.2.2.2.2.2 0 + 1 := by
          unfold pU7
          dsimp only
          exact u1
        rw [e, ea]
      have fu : (pU7 (M 931) n s).2.2.2.2.2.2.2.2.2 (1 + s.2.2.2.2.2.2.2.2.2 0) = (pU1 (M 931) n s).2.2.2.1 := by
        show upd1 (upd1 (upd1 (upd1 (pU6 (M 931) n s).2.2.2.2.2.2.2.2.2 _ _) _ _) _ _) 0 _ (1 + s.2.2.2.2.2.2.2.2.2 0) = _
        rw [u2 (by omega), u2 (by omega), u2 (by omega), u1]
      have f1 : ∀ i, i ≠ 0 → i ≠ 17 + s.2.2.2.2.2.2.2.2.2 0 → i ≠ 9 + s.2.2.2.2.2.2.2.2.2 0 → i ≠ 1 + s.2.2.2.2.2.2.2.2.2 0 → (pU7 (M 931) n s).2.2.2.2.2.2.2.2.2 i = s.2.2.2.2.2.2.2.2.2 i := fun i a b c d => by
        show upd1 (upd1 (upd1 (upd1 (pU6 (M 931) n s).2.2.2.2.2.2.2.2.2 _ _) _ _) _ _) 0 _ i = _
        rw [u2 a, u2 b, u2 c, u2 d, ea]
      have e := k.1.2.2.2
      refine ⟨⟨h1, h2, h3, h4, h5, h6, ?_, ?_, fun i a b => ?_, ?_⟩, k.1.2.1, fun _ => k.2, congrArg (fun z => z.1) e, congrArg (fun z => z.2.1) e, fun i hi => f1 i (by omega) (by omega) (by omega) (by omega)⟩
      · rw [f0]
        omega
      · rw [f1 65 (by omega) (by omega) (by omega) (by omega)]
        exact h8
      · rw [f0] at b
        by_cases e : i = s.2.2.2.2.2.2.2.2.2 0
        · rw [e, fu]
          by_cases e0 : s.2.2.2.2.2.2.2.2.2 0 = 0
          · have := g.1 e0
            omega
          · have := g.2.1 e0
            have q := h9 (s.2.2.2.2.2.2.2.2.2 0 - 1) (by omega) (by omega)
            rw [show 1 + (s.2.2.2.2.2.2.2.2.2 0 - 1) = 1 + s.2.2.2.2.2.2.2.2.2 0 - 1 by omega] at q
            omega
        · rw [f1 _ (by omega) (by omega) (by omega) (by omega)]
          exact h9 i a (by omega)
      · rw [f1 31 (by omega) (by omega) (by omega) (by omega)]
        exact h10
end
