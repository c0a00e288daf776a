/-! TEXTS *** tokens, and what a reading knows *** no program *** -/
def tBl (t : Int → Int) : Nat → Int → Int
  | 0, p => p
  | f + 1, p => if t p = 10 ∨ t p = 32 then tBl t f (p + 1) else p
def tSm (t : Int → Int) : Nat → Int → Int
  | 0, p => p
  | f + 1, p => if 97 ≤ t p ∧ t p ≤ 122 then tSm t f (p + 1) else p
def tDg (t : Int → Int) : Nat → Int → Int
  | 0, p => p
  | f + 1, p => if 48 ≤ t p ∧ t p ≤ 57 then tDg t f (p + 1) else p
theorem tBl_rng {t : Int → Int} : ∀ (f : Nat) (p : Int), p ≤ tBl t f p ∧ tBl t f p ≤ p + f
  | 0, p => by rw [tBl]; omega
  | f + 1, p => by
    have := tBl_rng (t := t) f (p + 1)
    rw [tBl]
    split <;> omega
theorem tSm_rng {t : Int → Int} : ∀ (f : Nat) (p : Int), p ≤ tSm t f p ∧ tSm t f p ≤ p + f
  | 0, p => by rw [tSm]; omega
  | f + 1, p => by
    have := tSm_rng (t := t) f (p + 1)
    rw [tSm]
    split <;> omega
theorem tDg_rng {t : Int → Int} : ∀ (f : Nat) (p : Int), p ≤ tDg t f p ∧ tDg t f p ≤ p + f
  | 0, p => by rw [tDg]; omega
  | f + 1, p => by
    have := tDg_rng (t := t) f (p + 1)
    rw [tDg]
    split <;> omega
/-- what the first figures are worth -/
def tNum (t : Int → Int) (p : Int) (k : Int) : Int := if k ≤ 0 then 0 else if k = 1 then t p - 48 else if k = 2 then 10 * (t p - 48) + t (p + 1) - 48 else 10 * (10 * (t p - 48) + t (p + 1) - 48) + t (p + 2) - 48
theorem tNum_s {t : Int → Int} {p k : Int} (h0 : 0 ≤ k) (h1 : k < 3) : 10 * tNum t p k + t (p + k) - 48 = tNum t p (k + 1) := by
  have h : k = 0 ∨ k = 1 ∨ k = 2 := by omega
  have e0 : tNum t p 0 = 0 := rfl
  have e1 : tNum t p 1 = t p - 48 := rfl
  have e2 : tNum t p 2 = 10 * (t p - 48) + t (p + 1) - 48 := rfl
  have e3 : tNum t p 3 = 10 * (10 * (t p - 48) + t (p + 1) - 48) + t (p + 2) - 48 := rfl
  rcases h with h | h | h <;> subst h
  · show _ = tNum t p 1
    rw [e0, e1, Int.add_zero]
    omega
  · show _ = tNum t p 2
    rw [e1, e2]
  · show _ = tNum t p 3
    rw [e2, e3]
theorem tNum_e {t : Int → Int} {p k : Int} (h : 3 ≤ k) : tNum t p (k + 1) = tNum t p k := by
  unfold tNum
  rw [if_neg (by omega), if_neg (by omega), if_neg (by omega), if_neg (by omega), if_neg (by omega), if_neg (by omega)]
abbrev isW0 (t : Int → Int) (p b : Int) : Prop := b = p + 4 ∧ t p = 117 ∧ t (p + 1) = 112 ∧ t (p + 2) = 116 ∧ t (p + 3) = 111
abbrev isW1 (t : Int → Int) (p b : Int) : Prop := b = p + 4 ∧ t p = 116 ∧ t (p + 1) = 97 ∧ t (p + 2) = 107 ∧ t (p + 3) = 101
abbrev isW2 (t : Int → Int) (p b : Int) : Prop := b = p + 3 ∧ t p = 112 ∧ t (p + 1) = 101 ∧ t (p + 2) = 114
abbrev isW3 (t : Int → Int) (p b : Int) : Prop := b = p + 5 ∧ t p = 108 ∧ t (p + 1) = 101 ∧ t (p + 2) = 97 ∧ t (p + 3) = 115 ∧ t (p + 4) = 116
abbrev isW4 (t : Int → Int) (p b : Int) : Prop := b = p + 6 ∧ t p = 116 ∧ t (p + 1) = 105 ∧ t (p + 2) = 99 ∧ t (p + 3) = 107 ∧ t (p + 4) = 101 ∧ t (p + 5) = 116
abbrev isW5 (t : Int → Int) (p b : Int) : Prop := b = p + 5 ∧ t p = 115 ∧ t (p + 1) = 119 ∧ t (p + 2) = 111 ∧ t (p + 3) = 114 ∧ t (p + 4) = 110
abbrev isW6 (t : Int → Int) (p b : Int) : Prop := b = p + 4 ∧ t p = 121 ∧ t (p + 1) = 101 ∧ t (p + 2) = 97 ∧ t (p + 3) = 114
abbrev isW7 (t : Int → Int) (p b : Int) : Prop := b = p + 4 ∧ t p = 109 ∧ t (p + 1) = 111 ∧ t (p + 2) = 116 ∧ t (p + 3) = 104
abbrev isW8 (t : Int → Int) (p b : Int) : Prop := b = p + 4 ∧ t p = 104 ∧ t (p + 1) = 111 ∧ t (p + 2) = 108 ∧ t (p + 3) = 100
abbrev isW9 (t : Int → Int) (p b : Int) : Prop := b = p + 4 ∧ t p = 115 ∧ t (p + 1) = 101 ∧ t (p + 2) = 101 ∧ t (p + 3) = 107
abbrev isW10 (t : Int → Int) (p b : Int) : Prop := b = p + 2 ∧ t p = 105 ∧ t (p + 1) = 102
abbrev isW11 (t : Int → Int) (p b : Int) : Prop := b = p + 2 ∧ t p = 111 ∧ t (p + 1) = 114
abbrev isW12 (t : Int → Int) (p b : Int) : Prop := b = p + 3 ∧ t p = 97 ∧ t (p + 1) = 110 ∧ t (p + 2) = 100
abbrev isW13 (t : Int → Int) (p b : Int) : Prop := b = p + 3 ∧ t p = 110 ∧ t (p + 1) = 111 ∧ t (p + 2) = 116
abbrev isW14 (t : Int → Int) (p b : Int) : Prop := b = p + 5 ∧ t p = 99 ∧ t (p + 1) = 108 ∧ t (p + 2) = 111 ∧ t (p + 3) = 116 ∧ t (p + 4) = 104
abbrev isW15 (t : Int → Int) (p b : Int) : Prop := b = p + 4 ∧ t p = 107 ∧ t (p + 1) = 105 ∧ t (p + 2) = 110 ∧ t (p + 3) = 100
abbrev isW16 (t : Int → Int) (p b : Int) : Prop := b = p + 4 ∧ t p = 115 ∧ t (p + 1) = 105 ∧ t (p + 2) = 122 ∧ t (p + 3) = 101
abbrev isW17 (t : Int → Int) (p b : Int) : Prop := b = p + 5 ∧ t p = 97 ∧ t (p + 1) = 98 ∧ t (p + 2) = 111 ∧ t (p + 3) = 118 ∧ t (p + 4) = 101
abbrev isW18 (t : Int → Int) (p b : Int) : Prop := b = p + 5 ∧ t p = 115 ∧ t (p + 1) = 105 ∧ t (p + 2) = 110 ∧ t (p + 3) = 99 ∧ t (p + 4) = 101
abbrev isW19 (t : Int → Int) (p b : Int) : Prop := b = p + 2 ∧ t p = 98 ∧ t (p + 1) = 121
def kx20 (_ : Int → Int) (_ _ : Int) : Int := 20
def kx19 (t : Int → Int) (p b : Int) : Int := if isW19 t p b then 19 else kx20 t p b
def kx18 (t : Int → Int) (p b : Int) : Int := if isW18 t p b then 18 else kx19 t p b
def kx17 (t : Int → Int) (p b : Int) : Int := if isW17 t p b then 17 else kx18 t p b
def kx16 (t : Int → Int) (p b : Int) : Int := if isW16 t p b then 16 else kx17 t p b
def kx15 (t : Int → Int) (p b : Int) : Int := if isW15 t p b then 15 else kx16 t p b
def kx14 (t : Int → Int) (p b : Int) : Int := if isW14 t p b then 14 else kx15 t p b
def kx13 (t : Int → Int) (p b : Int) : Int := if isW13 t p b then 13 else kx14 t p b
def kx12 (t : Int → Int) (p b : Int) : Int := if isW12 t p b then 12 else kx13 t p b
def kx11 (t : Int → Int) (p b : Int) : Int := if isW11 t p b then 11 else kx12 t p b
def kx10 (t : Int → Int) (p b : Int) : Int := if isW10 t p b then 10 else kx11 t p b
def kx9 (t : Int → Int) (p b : Int) : Int := if isW9 t p b then 9 else kx10 t p b
def kx8 (t : Int → Int) (p b : Int) : Int := if isW8 t p b then 8 else kx9 t p b
def kx7 (t : Int → Int) (p b : Int) : Int := if isW7 t p b then 7 else kx8 t p b
def kx6 (t : Int → Int) (p b : Int) : Int := if isW6 t p b then 6 else kx7 t p b
def kx5 (t : Int → Int) (p b : Int) : Int := if isW5 t p b then 5 else kx6 t p b
def kx4 (t : Int → Int) (p b : Int) : Int := if isW4 t p b then 4 else kx5 t p b
def kx3 (t : Int → Int) (p b : Int) : Int := if isW3 t p b then 3 else kx4 t p b
def kx2 (t : Int → Int) (p b : Int) : Int := if isW2 t p b then 2 else kx3 t p b
def kx1 (t : Int → Int) (p b : Int) : Int := if isW1 t p b then 1 else kx2 t p b
def kx0 (t : Int → Int) (p b : Int) : Int := if isW0 t p b then 0 else kx1 t p b
theorem kx20_ge {t : Int → Int} {p b : Int} : 20 ≤ kx20 t p b ∧ kx20 t p b ≤ 20 := ⟨Int.le_refl _, Int.le_refl _⟩
theorem kx19_ge {t : Int → Int} {p b : Int} : 19 ≤ kx19 t p b ∧ kx19 t p b ≤ 20 := by
  have := kx20_ge (t := t) (p := p) (b := b)
  unfold kx19
  split <;> omega
theorem kx18_ge {t : Int → Int} {p b : Int} : 18 ≤ kx18 t p b ∧ kx18 t p b ≤ 20 := by
  have := kx19_ge (t := t) (p := p) (b := b)
  unfold kx18
  split <;> omega
theorem kx17_ge {t : Int → Int} {p b : Int} : 17 ≤ kx17 t p b ∧ kx17 t p b ≤ 20 := by
  have := kx18_ge (t := t) (p := p) (b := b)
  unfold kx17
  split <;> omega
theorem kx16_ge {t : Int → Int} {p b : Int} : 16 ≤ kx16 t p b ∧ kx16 t p b ≤ 20 := by
  have := kx17_ge (t := t) (p := p) (b := b)
  unfold kx16
  split <;> omega
theorem kx15_ge {t : Int → Int} {p b : Int} : 15 ≤ kx15 t p b ∧ kx15 t p b ≤ 20 := by
  have := kx16_ge (t := t) (p := p) (b := b)
  unfold kx15
  split <;> omega
theorem kx14_ge {t : Int → Int} {p b : Int} : 14 ≤ kx14 t p b ∧ kx14 t p b ≤ 20 := by
  have := kx15_ge (t := t) (p := p) (b := b)
  unfold kx14
  split <;> omega
theorem kx13_ge {t : Int → Int} {p b : Int} : 13 ≤ kx13 t p b ∧ kx13 t p b ≤ 20 := by
  have := kx14_ge (t := t) (p := p) (b := b)
  unfold kx13
  split <;> omega
theorem kx12_ge {t : Int → Int} {p b : Int} : 12 ≤ kx12 t p b ∧ kx12 t p b ≤ 20 := by
  have := kx13_ge (t := t) (p := p) (b := b)
  unfold kx12
  split <;> omega
theorem kx11_ge {t : Int → Int} {p b : Int} : 11 ≤ kx11 t p b ∧ kx11 t p b ≤ 20 := by
  have := kx12_ge (t := t) (p := p) (b := b)
  unfold kx11
  split <;> omega
theorem kx10_ge {t : Int → Int} {p b : Int} : 10 ≤ kx10 t p b ∧ kx10 t p b ≤ 20 := by
  have := kx11_ge (t := t) (p := p) (b := b)
  unfold kx10
  split <;> omega
theorem kx9_ge {t : Int → Int} {p b : Int} : 9 ≤ kx9 t p b ∧ kx9 t p b ≤ 20 := by
  have := kx10_ge (t := t) (p := p) (b := b)
  unfold kx9
  split <;> omega
theorem kx8_ge {t : Int → Int} {p b : Int} : 8 ≤ kx8 t p b ∧ kx8 t p b ≤ 20 := by
  have := kx9_ge (t := t) (p := p) (b := b)
  unfold kx8
  split <;> omega
theorem kx7_ge {t : Int → Int} {p b : Int} : 7 ≤ kx7 t p b ∧ kx7 t p b ≤ 20 := by
  have := kx8_ge (t := t) (p := p) (b := b)
  unfold kx7
  split <;> omega
theorem kx6_ge {t : Int → Int} {p b : Int} : 6 ≤ kx6 t p b ∧ kx6 t p b ≤ 20 := by
  have := kx7_ge (t := t) (p := p) (b := b)
  unfold kx6
  split <;> omega
theorem kx5_ge {t : Int → Int} {p b : Int} : 5 ≤ kx5 t p b ∧ kx5 t p b ≤ 20 := by
  have := kx6_ge (t := t) (p := p) (b := b)
  unfold kx5
  split <;> omega
theorem kx4_ge {t : Int → Int} {p b : Int} : 4 ≤ kx4 t p b ∧ kx4 t p b ≤ 20 := by
  have := kx5_ge (t := t) (p := p) (b := b)
  unfold kx4
  split <;> omega
theorem kx3_ge {t : Int → Int} {p b : Int} : 3 ≤ kx3 t p b ∧ kx3 t p b ≤ 20 := by
  have := kx4_ge (t := t) (p := p) (b := b)
  unfold kx3
  split <;> omega
theorem kx2_ge {t : Int → Int} {p b : Int} : 2 ≤ kx2 t p b ∧ kx2 t p b ≤ 20 := by
  have := kx3_ge (t := t) (p := p) (b := b)
  unfold kx2
  split <;> omega
theorem kx1_ge {t : Int → Int} {p b : Int} : 1 ≤ kx1 t p b ∧ kx1 t p b ≤ 20 := by
  have := kx2_ge (t := t) (p := p) (b := b)
  unfold kx1
  split <;> omega
theorem kx0_ge {t : Int → Int} {p b : Int} : 0 ≤ kx0 t p b ∧ kx0 t p b ≤ 20 := by
  have := kx1_ge (t := t) (p := p) (b := b)
  unfold kx0
  split <;> omega
theorem kw_0 {t : Int → Int} {p b : Int} : kx0 t p b = 0 ↔ isW0 t p b := by
  constructor
  · intro h
    rw [kx0] at h
    by_cases q0 : isW0 t p b
    · exact q0
    rw [if_neg q0] at h
    have := kx1_ge (t := t) (p := p) (b := b)
    omega
  · intro h
    rw [kx0, if_pos h]
theorem kw_1 {t : Int → Int} {p b : Int} : kx0 t p b = 1 ↔ isW1 t p b := by
  constructor
  · intro h
    rw [kx0] at h
    by_cases q0 : isW0 t p b
    · rw [if_pos q0] at h
      omega
    rw [if_neg q0] at h
    rw [kx1] at h
    by_cases q1 : isW1 t p b
    · exact q1
    rw [if_neg q1] at h
    have := kx2_ge (t := t) (p := p) (b := b)
    omega
  · intro h
    rw [kx0, if_neg (fun q => by omega), kx1, if_pos h]
theorem kw_2 {t : Int → Int} {p b : Int} : kx0 t p b = 2 ↔ isW2 t p b := by
  constructor
  · intro h
    rw [kx0] at h
    by_cases q0 : isW0 t p b
    · rw [if_pos q0] at h
      omega
    rw [if_neg q0] at h
    rw [kx1] at h
    by_cases q1 : isW1 t p b
    · rw [if_pos q1] at h
      omega
    rw [if_neg q1] at h
    rw [kx2] at h
    by_cases q2 : isW2 t p b
    · exact q2
    rw [if_neg q2] at h
    have := kx3_ge (t := t) (p := p) (b := b)
    omega
  · intro h
    rw [kx0, if_neg (fun q => by omega), kx1, if_neg (fun q => by omega), kx2, if_pos h]
theorem kw_3 {t : Int → Int} {p b : Int} : kx0 t p b = 3 ↔ isW3 t p b := by
  constructor
  · intro h
    rw [kx0] at h
    by_cases q0 : isW0 t p b
    · rw [if_pos q0] at h
      omega
    rw [if_neg q0] at h
    rw [kx1] at h
    by_cases q1 : isW1 t p b
    · rw [if_pos q1] at h
      omega
    rw [if_neg q1] at h
    rw [kx2] at h
    by_cases q2 : isW2 t p b
    · rw [if_pos q2] at h
      omega
    rw [if_neg q2] at h
    rw [kx3] at h
    by_cases q3 : isW3 t p b
    · exact q3
    rw [if_neg q3] at h
    have := kx4_ge (t := t) (p := p) (b := b)
    omega
  · intro h
    rw [kx0, if_neg (fun q => by omega), kx1, if_neg (fun q => by omega), kx2, if_neg (fun q => by omega), kx3, if_pos h]
theorem kw_4 {t : Int → Int} {p b : Int} : kx0 t p b = 4 ↔ isW4 t p b := by
  constructor
  · intro h
    rw [kx0] at h
    by_cases q0 : isW0 t p b
    · rw [if_pos q0] at h
      omega
    rw [if_neg q0] at h
    rw [kx1] at h
    by_cases q1 : isW1 t p b
    · rw [if_pos q1] at h
      omega
    rw [if_neg q1] at h
    rw [kx2] at h
    by_cases q2 : isW2 t p b
    · rw [if_pos q2] at h
      omega
    rw [if_neg q2] at h
    rw [kx3] at h
    by_cases q3 : isW3 t p b
    · rw [if_pos q3] at h
      omega
    rw [if_neg q3] at h
    rw [kx4] at h
    by_cases q4 : isW4 t p b
    · exact q4
    rw [if_neg q4] at h
    have := kx5_ge (t := t) (p := p) (b := b)
    omega
  · intro h
    rw [kx0, if_neg (fun q => by omega), kx1, if_neg (fun q => by omega), kx2, if_neg (fun q => by omega), kx3, if_neg (fun q => by omega), kx4, if_pos h]
theorem kw_5 {t : Int → Int} {p b : Int} : kx0 t p b = 5 ↔ isW5 t p b := by
  constructor
  · intro h
    rw [kx0] at h
    by_cases q0 : isW0 t p b
    · rw [if_pos q0] at h
      omega
    rw [if_neg q0] at h
    rw [kx1] at h
    by_cases q1 : isW1 t p b
    · rw [if_pos q1] at h
      omega
    rw [if_neg q1] at h
    rw [kx2] at h
    by_cases q2 : isW2 t p b
    · rw [if_pos q2] at h
      omega
    rw [if_neg q2] at h
    rw [kx3] at h
    by_cases q3 : isW3 t p b
    · rw [if_pos q3] at h
      omega
    rw [if_neg q3] at h
    rw [kx4] at h
    by_cases q4 : isW4 t p b
    · rw [if_pos q4] at h
      omega
    rw [if_neg q4] at h
    rw [kx5] at h
    by_cases q5 : isW5 t p b
    · exact q5
    rw [if_neg q5] at h
    have := kx6_ge (t := t) (p := p) (b := b)
    omega
  · intro h
    rw [kx0, if_neg (fun q => by omega), kx1, if_neg (fun q => by omega), kx2, if_neg (fun q => by omega), kx3, if_neg (fun q => by omega), kx4, if_neg (fun q => by omega), kx5, if_pos h]
theorem kw_6 {t : Int → Int} {p b : Int} : kx0 t p b = 6 ↔ isW6 t p b := by
  constructor
  · intro h
    rw [kx0] at h
    by_cases q0 : isW0 t p b
    · rw [if_pos q0] at h
      omega
    rw [if_neg q0] at h
    rw [kx1] at h
    by_cases q1 : isW1 t p b
    · rw [if_pos q1] at h
      omega
    rw [if_neg q1] at h
    rw [kx2] at h
    by_cases q2 : isW2 t p b
    · rw [if_pos q2] at h
      omega
    rw [if_neg q2] at h
    rw [kx3] at h
    by_cases q3 : isW3 t p b
    · rw [if_pos q3] at h
      omega
    rw [if_neg q3] at h
    rw [kx4] at h
    by_cases q4 : isW4 t p b
    · rw [if_pos q4] at h
      omega
    rw [if_neg q4] at h
    rw [kx5] at h
    by_cases q5 : isW5 t p b
    · rw [if_pos q5] at h
      omega
    rw [if_neg q5] at h
    rw [kx6] at h
    by_cases q6 : isW6 t p b
    · exact q6
    rw [if_neg q6] at h
    have := kx7_ge (t := t) (p := p) (b := b)
    omega
  · intro h
    rw [kx0, if_neg (fun q => by omega), kx1, if_neg (fun q => by omega), kx2, if_neg (fun q => by omega), kx3, if_neg (fun q => by omega), kx4, if_neg (fun q => by omega), kx5, if_neg (fun q => by omega), kx6, if_pos h]
theorem kw_7 {t : Int → Int} {p b : Int} : kx0 t p b = 7 ↔ isW7 t p b := by
  constructor
  · intro h
    rw [kx0] at h
    by_cases q0 : isW0 t p b
    · rw [if_pos q0] at h
      omega
    rw [if_neg q0] at h
    rw [kx1] at h
    by_cases q1 : isW1 t p b
    · rw [if_pos q1] at h
      omega
    rw [if_neg q1] at h
    rw [kx2] at h
    by_cases q2 : isW2 t p b
    · rw [if_pos q2] at h
      omega
    rw [if_neg q2] at h
    rw [kx3] at h
    by_cases q3 : isW3 t p b
    · rw [if_pos q3] at h
      omega
    rw [if_neg q3] at h
    rw [kx4] at h
    by_cases q4 : isW4 t p b
    · rw [if_pos q4] at h
      omega
    rw [if_neg q4] at h
    rw [kx5] at h
    by_cases q5 : isW5 t p b
    · rw [if_pos q5] at h
      omega
    rw [if_neg q5] at h
    rw [kx6] at h
    by_cases q6 : isW6 t p b
    · rw [if_pos q6] at h
      omega
    rw [if_neg q6] at h
    rw [kx7] at h
    by_cases q7 : isW7 t p b
    · exact q7
    rw [if_neg q7] at h
    have := kx8_ge (t := t) (p := p) (b := b)
    omega
  · intro h
    rw [kx0, if_neg (fun q => by omega), kx1, if_neg (fun q => by omega), kx2, if_neg (fun q => by omega), kx3, if_neg (fun q => by omega), kx4, if_neg (fun q => by omega), kx5, if_neg (fun q => by omega), kx6, if_neg (fun q => by omega), kx7, if_pos h]
theorem kw_8 {t : Int → Int} {p b : Int} : kx0 t p b = 8 ↔ isW8 t p b := by
  constructor
  · intro h
    rw [kx0] at h
    by_cases q0 : isW0 t p b
    · rw [if_pos q0] at h
      omega
    rw [if_neg q0] at h
    rw [kx1] at h
    by_cases q1 : isW1 t p b
    · rw [if_pos q1] at h
      omega
    rw [if_neg q1] at h
    rw [kx2] at h
    by_cases q2 : isW2 t p b
    · rw [if_pos q2] at h
      omega
    rw [if_neg q2] at h
    rw [kx3] at h
    by_cases q3 : isW3 t p b
    · rw [if_pos q3] at h
      omega
    rw [if_neg q3] at h
    rw [kx4] at h
    by_cases q4 : isW4 t p b
    · rw [if_pos q4] at h
      omega
    rw [if_neg q4] at h
    rw [kx5] at h
    by_cases q5 : isW5 t p b
    · rw [if_pos q5] at h
      omega
    rw [if_neg q5] at h
    rw [kx6] at h
    by_cases q6 : isW6 t p b
    · rw [if_pos q6] at h
      omega
    rw [if_neg q6] at h
    rw [kx7] at h
    by_cases q7 : isW7 t p b
    · rw [if_pos q7] at h
      omega
    rw [if_neg q7] at h
    rw [kx8] at h
    by_cases q8 : isW8 t p b
    · exact q8
    rw [if_neg q8] at h
    have := kx9_ge (t := t) (p := p) (b := b)
    omega
  · intro h
    rw [kx0, if_neg (fun q => by omega), kx1, if_neg (fun q => by omega), kx2, if_neg (fun q => by omega), kx3, if_neg (fun q => by omega), kx4, if_neg (fun q => by omega), kx5, if_neg (fun q => by omega), kx6, if_neg (fun q => by omega), kx7, if_neg (fun q => by omega), kx8, if_pos h]
theorem kw_9 {t : Int → Int} {p b : Int} : kx0 t p b = 9 ↔ isW9 t p b := by
  constructor
  · intro h
    rw [kx0] at h
    by_cases q0 : isW0 t p b
    · rw [if_pos q0] at h
      omega
    rw [if_neg q0] at h
    rw [kx1] at h
    by_cases q1 : isW1 t p b
    · rw [if_pos q1] at h
      omega
    rw [if_neg q1] at h
    rw [kx2] at h
    by_cases q2 : isW2 t p b
    · rw [if_pos q2] at h
      omega
    rw [if_neg q2] at h
    rw [kx3] at h
    by_cases q3 : isW3 t p b
    · rw [if_pos q3] at h
      omega
    rw [if_neg q3] at h
    rw [kx4] at h
    by_cases q4 : isW4 t p b
    · rw [if_pos q4] at h
      omega
    rw [if_neg q4] at h
    rw [kx5] at h
    by_cases q5 : isW5 t p b
    · rw [if_pos q5] at h
      omega
    rw [if_neg q5] at h
    rw [kx6] at h
    by_cases q6 : isW6 t p b
    · rw [if_pos q6] at h
      omega
    rw [if_neg q6] at h
    rw [kx7] at h
    by_cases q7 : isW7 t p b
    · rw [if_pos q7] at h
      omega
    rw [if_neg q7] at h
    rw [kx8] at h
    by_cases q8 : isW8 t p b
    · rw [if_pos q8] at h
      omega
    rw [if_neg q8] at h
    rw [kx9] at h
    by_cases q9 : isW9 t p b
    · exact q9
    rw [if_neg q9] at h
    have := kx10_ge (t := t) (p := p) (b := b)
    omega
  · intro h
    rw [kx0, if_neg (fun q => by omega), kx1, if_neg (fun q => by omega), kx2, if_neg (fun q => by omega), kx3, if_neg (fun q => by omega), kx4, if_neg (fun q => by omega), kx5, if_neg (fun q => by omega), kx6, if_neg (fun q => by omega), kx7, if_neg (fun q => by omega), kx8, if_neg (fun q => by omega), kx9, if_pos h]
theorem kw_10 {t : Int → Int} {p b : Int} : kx0 t p b = 10 ↔ isW10 t p b := by
  constructor
  · intro h
    rw [kx0] at h
    by_cases q0 : isW0 t p b
    · rw [if_pos q0] at h
      omega
    rw [if_neg q0] at h
    rw [kx1] at h
    by_cases q1 : isW1 t p b
    · rw [if_pos q1] at h
      omega
    rw [if_neg q1] at h
    rw [kx2] at h
    by_cases q2 : isW2 t p b
    · rw [if_pos q2] at h
      omega
    rw [if_neg q2] at h
    rw [kx3] at h
    by_cases q3 : isW3 t p b
    · rw [if_pos q3] at h
      omega
    rw [if_neg q3] at h
    rw [kx4] at h
    by_cases q4 : isW4 t p b
    · rw [if_pos q4] at h
      omega
    rw [if_neg q4] at h
    rw [kx5] at h
    by_cases q5 : isW5 t p b
    · rw [if_pos q5] at h
      omega
    rw [if_neg q5] at h
    rw [kx6] at h
    by_cases q6 : isW6 t p b
    · rw [if_pos q6] at h
      omega
    rw [if_neg q6] at h
    rw [kx7] at h
    by_cases q7 : isW7 t p b
    · rw [if_pos q7] at h
      omega
    rw [if_neg q7] at h
    rw [kx8] at h
    by_cases q8 : isW8 t p b
    · rw [if_pos q8] at h
      omega
    rw [if_neg q8] at h
    rw [kx9] at h
    by_cases q9 : isW9 t p b
    · rw [if_pos q9] at h
      omega
    rw [if_neg q9] at h
    rw [kx10] at h
    by_cases q10 : isW10 t p b
    · exact q10
    rw [if_neg q10] at h
    have := kx11_ge (t := t) (p := p) (b := b)
    omega
  · intro h
    rw [kx0, if_neg (fun q => by omega), kx1, if_neg (fun q => by omega), kx2, if_neg (fun q => by omega), kx3, if_neg (fun q => by omega), kx4, if_neg (fun q => by omega), kx5, if_neg (fun q => by omega), kx6, if_neg (fun q => by omega), kx7, if_neg (fun q => by omega), kx8, if_neg (fun q => by omega), kx9, if_neg (fun q => by omega), kx10, if_pos h]
theorem kw_11 {t : Int → Int} {p b : Int} : kx0 t p b = 11 ↔ isW11 t p b := by
  constructor
  · intro h
    rw [kx0] at h
    by_cases q0 : isW0 t p b
    · rw [if_pos q0] at h
      omega
    rw [if_neg q0] at h
    rw [kx1] at h
    by_cases q1 : isW1 t p b
    · rw [if_pos q1] at h
      omega
    rw [if_neg q1] at h
    rw [kx2] at h
    by_cases q2 : isW2 t p b
    · rw [if_pos q2] at h
      omega
    rw [if_neg q2] at h
    rw [kx3] at h
    by_cases q3 : isW3 t p b
    · rw [if_pos q3] at h
      omega
    rw [if_neg q3] at h
    rw [kx4] at h
    by_cases q4 : isW4 t p b
    · rw [if_pos q4] at h
      omega
    rw [if_neg q4] at h
    rw [kx5] at h
    by_cases q5 : isW5 t p b
    · rw [if_pos q5] at h
      omega
    rw [if_neg q5] at h
    rw [kx6] at h
    by_cases q6 : isW6 t p b
    · rw [if_pos q6] at h
      omega
    rw [if_neg q6] at h
    rw [kx7] at h
    by_cases q7 : isW7 t p b
    · rw [if_pos q7] at h
      omega
    rw [if_neg q7] at h
    rw [kx8] at h
    by_cases q8 : isW8 t p b
    · rw [if_pos q8] at h
      omega
    rw [if_neg q8] at h
    rw [kx9] at h
    by_cases q9 : isW9 t p b
    · rw [if_pos q9] at h
      omega
    rw [if_neg q9] at h
    rw [kx10] at h
    by_cases q10 : isW10 t p b
    · rw [if_pos q10] at h
      omega
    rw [if_neg q10] at h
    rw [kx11] at h
    by_cases q11 : isW11 t p b
    · exact q11
    rw [if_neg q11] at h
    have := kx12_ge (t := t) (p := p) (b := b)
    omega
  · intro h
    rw [kx0, if_neg (fun q => by omega), kx1, if_neg (fun q => by omega), kx2, if_neg (fun q => by omega), kx3, if_neg (fun q => by omega), kx4, if_neg (fun q => by omega), kx5, if_neg (fun q => by omega), kx6, if_neg (fun q => by omega), kx7, if_neg (fun q => by omega), kx8, if_neg (fun q => by omega), kx9, if_neg (fun q => by omega), kx10, if_neg (fun q => by omega), kx11, if_pos h]
theorem kw_12 {t : Int → Int} {p b : Int} : kx0 t p b = 12 ↔ isW12 t p b := by
  constructor
  · intro h
    rw [kx0] at h
    by_cases q0 : isW0 t p b
    · rw [if_pos q0] at h
      omega
    rw [if_neg q0] at h
    rw [kx1] at h
    by_cases q1 : isW1 t p b
    · rw [if_pos q1] at h
      omega
    rw [if_neg q1] at h
    rw [kx2] at h
    by_cases q2 : isW2 t p b
    · rw [if_pos q2] at h
      omega
    rw [if_neg q2] at h
    rw [kx3] at h
    by_cases q3 : isW3 t p b
    · rw [if_pos q3] at h
      omega
    rw [if_neg q3] at h
    rw [kx4] at h
    by_cases q4 : isW4 t p b
    · rw [if_pos q4] at h
      omega
    rw [if_neg q4] at h
    rw [kx5] at h
    by_cases q5 : isW5 t p b
    · rw [if_pos q5] at h
      omega
    rw [if_neg q5] at h
    rw [kx6] at h
    by_cases q6 : isW6 t p b
    · rw [if_pos q6] at h
      omega
    rw [if_neg q6] at h
    rw [kx7] at h
    by_cases q7 : isW7 t p b
    · rw [if_pos q7] at h
      omega
    rw [if_neg q7] at h
    rw [kx8] at h
    by_cases q8 : isW8 t p b
    · rw [if_pos q8] at h
      omega
    rw [if_neg q8] at h
    rw [kx9] at h
    by_cases q9 : isW9 t p b
    · rw [if_pos q9] at h
      omega
    rw [if_neg q9] at h
    rw [kx10] at h
    by_cases q10 : isW10 t p b
    · rw [if_pos q10] at h
      omega
    rw [if_neg q10] at h
    rw [kx11] at h
    by_cases q11 : isW11 t p b
    · rw [if_pos q11] at h
      omega
    rw [if_neg q11] at h
    rw [kx12] at h
    by_cases q12 : isW12 t p b
    · exact q12
    rw [if_neg q12] at h
    have := kx13_ge (t := t) (p := p) (b := b)
    omega
  · intro h
    rw [kx0, if_neg (fun q => by omega), kx1, if_neg (fun q => by omega), kx2, if_neg (fun q => by omega), kx3, if_neg (fun q => by omega), kx4, if_neg (fun q => by omega), kx5, if_neg (fun q => by omega), kx6, if_neg (fun q => by omega), kx7, if_neg (fun q => by omega), kx8, if_neg (fun q => by omega), kx9, if_neg (fun q => by omega), kx10, if_neg (fun q => by omega), kx11, if_neg (fun q => by omega), kx12, if_pos h]
theorem kw_13 {t : Int → Int} {p b : Int} : kx0 t p b = 13 ↔ isW13 t p b := by
  constructor
  · intro h
    rw [kx0] at h
    by_cases q0 : isW0 t p b
    · rw [if_pos q0] at h
      omega
    rw [if_neg q0] at h
    rw [kx1] at h
    by_cases q1 : isW1 t p b
    · rw [if_pos q1] at h
      omega
    rw [if_neg q1] at h
    rw [kx2] at h
    by_cases q2 : isW2 t p b
    · rw [if_pos q2] at h
      omega
    rw [if_neg q2] at h
    rw [kx3] at h
    by_cases q3 : isW3 t p b
    · rw [if_pos q3] at h
      omega
    rw [if_neg q3] at h
    rw [kx4] at h
    by_cases q4 : isW4 t p b
    · rw [if_pos q4] at h
      omega
    rw [if_neg q4] at h
    rw [kx5] at h
    by_cases q5 : isW5 t p b
    · rw [if_pos q5] at h
      omega
    rw [if_neg q5] at h
    rw [kx6] at h
    by_cases q6 : isW6 t p b
    · rw [if_pos q6] at h
      omega
    rw [if_neg q6] at h
    rw [kx7] at h
    by_cases q7 : isW7 t p b
    · rw [if_pos q7] at h
      omega
    rw [if_neg q7] at h
    rw [kx8] at h
    by_cases q8 : isW8 t p b
    · rw [if_pos q8] at h
      omega
    rw [if_neg q8] at h
    rw [kx9] at h
    by_cases q9 : isW9 t p b
    · rw [if_pos q9] at h
      omega
    rw [if_neg q9] at h
    rw [kx10] at h
    by_cases q10 : isW10 t p b
    · rw [if_pos q10] at h
      omega
    rw [if_neg q10] at h
    rw [kx11] at h
    by_cases q11 : isW11 t p b
    · rw [if_pos q11] at h
      omega
    rw [if_neg q11] at h
    rw [kx12] at h
    by_cases q12 : isW12 t p b
    · rw [if_pos q12] at h
      omega
    rw [if_neg q12] at h
    rw [kx13] at h
    by_cases q13 : isW13 t p b
    · exact q13
    rw [if_neg q13] at h
    have := kx14_ge (t := t) (p := p) (b := b)
    omega
  · intro h
    rw [kx0, if_neg (fun q => by omega), kx1, if_neg (fun q => by omega), kx2, if_neg (fun q => by omega), kx3, if_neg (fun q => by omega), kx4, if_neg (fun q => by omega), kx5, if_neg (fun q => by omega), kx6, if_neg (fun q => by omega), kx7, if_neg (fun q => by omega), kx8, if_neg (fun q => by omega), kx9, if_neg (fun q => by omega), kx10, if_neg (fun q => by omega), kx11, if_neg (fun q => by omega), kx12, if_neg (fun q => by omega), kx13, if_pos h]
theorem kw_14 {t : Int → Int} {p b : Int} : kx0 t p b = 14 ↔ isW14 t p b := by
  constructor
  · intro h
    rw [kx0] at h
    by_cases q0 : isW0 t p b
    · rw [if_pos q0] at h
      omega
    rw [if_neg q0] at h
    rw [kx1] at h
    by_cases q1 : isW1 t p b
    · rw [if_pos q1] at h
      omega
    rw [if_neg q1] at h
    rw [kx2] at h
    by_cases q2 : isW2 t p b
    · rw [if_pos q2] at h
      omega
    rw [if_neg q2] at h
    rw [kx3] at h
    by_cases q3 : isW3 t p b
    · rw [if_pos q3] at h
      omega
    rw [if_neg q3] at h
    rw [kx4] at h
    by_cases q4 : isW4 t p b
    · rw [if_pos q4] at h
      omega
    rw [if_neg q4] at h
    rw [kx5] at h
    by_cases q5 : isW5 t p b
    · rw [if_pos q5] at h
      omega
    rw [if_neg q5] at h
    rw [kx6] at h
    by_cases q6 : isW6 t p b
    · rw [if_pos q6] at h
      omega
    rw [if_neg q6] at h
    rw [kx7] at h
    by_cases q7 : isW7 t p b
    · rw [if_pos q7] at h
      omega
    rw [if_neg q7] at h
    rw [kx8] at h
    by_cases q8 : isW8 t p b
    · rw [if_pos q8] at h
      omega
    rw [if_neg q8] at h
    rw [kx9] at h
    by_cases q9 : isW9 t p b
    · rw [if_pos q9] at h
      omega
    rw [if_neg q9] at h
    rw [kx10] at h
    by_cases q10 : isW10 t p b
    · rw [if_pos q10] at h
      omega
    rw [if_neg q10] at h
    rw [kx11] at h
    by_cases q11 : isW11 t p b
    · rw [if_pos q11] at h
      omega
    rw [if_neg q11] at h
    rw [kx12] at h
    by_cases q12 : isW12 t p b
    · rw [if_pos q12] at h
      omega
    rw [if_neg q12] at h
    rw [kx13] at h
    by_cases q13 : isW13 t p b
    · rw [if_pos q13] at h
      omega
    rw [if_neg q13] at h
    rw [kx14] at h
    by_cases q14 : isW14 t p b
    · exact q14
    rw [if_neg q14] at h
    have := kx15_ge (t := t) (p := p) (b := b)
    omega
  · intro h
    rw [kx0, if_neg (fun q => by omega), kx1, if_neg (fun q => by omega), kx2, if_neg (fun q => by omega), kx3, if_neg (fun q => by omega), kx4, if_neg (fun q => by omega), kx5, if_neg (fun q => by omega), kx6, if_neg (fun q => by omega), kx7, if_neg (fun q => by omega), kx8, if_neg (fun q => by omega), kx9, if_neg (fun q => by omega), kx10, if_neg (fun q => by omega), kx11, if_neg (fun q => by omega), kx12, if_neg (fun q => by omega), kx13, if_neg (fun q => by omega), kx14, if_pos h]
theorem kw_15 {t : Int → Int} {p b : Int} : kx0 t p b = 15 ↔ isW15 t p b := by
  constructor
  · intro h
    rw [kx0] at h
    by_cases q0 : isW0 t p b
    · rw [if_pos q0] at h
      omega
    rw [if_neg q0] at h
    rw [kx1] at h
    by_cases q1 : isW1 t p b
    · rw [if_pos q1] at h
      omega
    rw [if_neg q1] at h
    rw [kx2] at h
    by_cases q2 : isW2 t p b
    · rw [if_pos q2] at h
      omega
    rw [if_neg q2] at h
    rw [kx3] at h
    by_cases q3 : isW3 t p b
    · rw [if_pos q3] at h
      omega
    rw [if_neg q3] at h
    rw [kx4] at h
    by_cases q4 : isW4 t p b
    · rw [if_pos q4] at h
      omega
    rw [if_neg q4] at h
    rw [kx5] at h
    by_cases q5 : isW5 t p b
    · rw [if_pos q5] at h
      omega
    rw [if_neg q5] at h
    rw [kx6] at h
    by_cases q6 : isW6 t p b
    · rw [if_pos q6] at h
      omega
    rw [if_neg q6] at h
    rw [kx7] at h
    by_cases q7 : isW7 t p b
    · rw [if_pos q7] at h
      omega
    rw [if_neg q7] at h
    rw [kx8] at h
    by_cases q8 : isW8 t p b
    · rw [if_pos q8] at h
      omega
    rw [if_neg q8] at h
    rw [kx9] at h
    by_cases q9 : isW9 t p b
    · rw [if_pos q9] at h
      omega
    rw [if_neg q9] at h
    rw [kx10] at h
    by_cases q10 : isW10 t p b
    · rw [if_pos q10] at h
      omega
    rw [if_neg q10] at h
    rw [kx11] at h
    by_cases q11 : isW11 t p b
    · rw [if_pos q11] at h
      omega
    rw [if_neg q11] at h
    rw [kx12] at h
    by_cases q12 : isW12 t p b
    · rw [if_pos q12] at h
      omega
    rw [if_neg q12] at h
    rw [kx13] at h
    by_cases q13 : isW13 t p b
    · rw [if_pos q13] at h
      omega
    rw [if_neg q13] at h
    rw [kx14] at h
    by_cases q14 : isW14 t p b
    · rw [if_pos q14] at h
      omega
    rw [if_neg q14] at h
    rw [kx15] at h
    by_cases q15 : isW15 t p b
    · exact q15
    rw [if_neg q15] at h
    have := kx16_ge (t := t) (p := p) (b := b)
    omega
  · intro h
    rw [kx0, if_neg (fun q => by omega), kx1, if_neg (fun q => by omega), kx2, if_neg (fun q => by omega), kx3, if_neg (fun q => by omega), kx4, if_neg (fun q => by omega), kx5, if_neg (fun q => by omega), kx6, if_neg (fun q => by omega), kx7, if_neg (fun q => by omega), kx8, if_neg (fun q => by omega), kx9, if_neg (fun q => by omega), kx10, if_neg (fun q => by omega), kx11, if_neg (fun q => by omega), kx12, if_neg (fun q => by omega), kx13, if_neg (fun q => by omega), kx14, if_neg (fun q => by omega), kx15, if_pos h]
theorem kw_16 {t : Int → Int} {p b : Int} : kx0 t p b = 16 ↔ isW16 t p b := by
  constructor
  · intro h
    rw [kx0] at h
    by_cases q0 : isW0 t p b
    · rw [if_pos q0] at h
      omega
    rw [if_neg q0] at h
    rw [kx1] at h
    by_cases q1 : isW1 t p b
    · rw [if_pos q1] at h
      omega
    rw [if_neg q1] at h
    rw [kx2] at h
    by_cases q2 : isW2 t p b
    · rw [if_pos q2] at h
      omega
    rw [if_neg q2] at h
    rw [kx3] at h
    by_cases q3 : isW3 t p b
    · rw [if_pos q3] at h
      omega
    rw [if_neg q3] at h
    rw [kx4] at h
    by_cases q4 : isW4 t p b
    · rw [if_pos q4] at h
      omega
    rw [if_neg q4] at h
    rw [kx5] at h
    by_cases q5 : isW5 t p b
    · rw [if_pos q5] at h
      omega
    rw [if_neg q5] at h
    rw [kx6] at h
    by_cases q6 : isW6 t p b
    · rw [if_pos q6] at h
      omega
    rw [if_neg q6] at h
    rw [kx7] at h
    by_cases q7 : isW7 t p b
    · rw [if_pos q7] at h
      omega
    rw [if_neg q7] at h
    rw [kx8] at h
    by_cases q8 : isW8 t p b
    · rw [if_pos q8] at h
      omega
    rw [if_neg q8] at h
    rw [kx9] at h
    by_cases q9 : isW9 t p b
    · rw [if_pos q9] at h
      omega
    rw [if_neg q9] at h
    rw [kx10] at h
    by_cases q10 : isW10 t p b
    · rw [if_pos q10] at h
      omega
    rw [if_neg q10] at h
    rw [kx11] at h
    by_cases q11 : isW11 t p b
    · rw [if_pos q11] at h
      omega
    rw [if_neg q11] at h
    rw [kx12] at h
    by_cases q12 : isW12 t p b
    · rw [if_pos q12] at h
      omega
    rw [if_neg q12] at h
    rw [kx13] at h
    by_cases q13 : isW13 t p b
    · rw [if_pos q13] at h
      omega
    rw [if_neg q13] at h
    rw [kx14] at h
    by_cases q14 : isW14 t p b
    · rw [if_pos q14] at h
      omega
    rw [if_neg q14] at h
    rw [kx15] at h
    by_cases q15 : isW15 t p b
    · rw [if_pos q15] at h
      omega
    rw [if_neg q15] at h
    rw [kx16] at h
    by_cases q16 : isW16 t p b
    · exact q16
    rw [if_neg q16] at h
    have := kx17_ge (t := t) (p := p) (b := b)
    omega
  · intro h
    rw [kx0, if_neg (fun q => by omega), kx1, if_neg (fun q => by omega), kx2, if_neg (fun q => by omega), kx3, if_neg (fun q => by omega), kx4, if_neg (fun q => by omega), kx5, if_neg (fun q => by omega), kx6, if_neg (fun q => by omega), kx7, if_neg (fun q => by omega), kx8, if_neg (fun q => by omega), kx9, if_neg (fun q => by omega), kx10, if_neg (fun q => by omega), kx11, if_neg (fun q => by omega), kx12, if_neg (fun q => by omega), kx13, if_neg (fun q => by omega), kx14, if_neg (fun q => by omega), kx15, if_neg (fun q => by omega), kx16, if_pos h]
theorem kw_17 {t : Int → Int} {p b : Int} : kx0 t p b = 17 ↔ isW17 t p b := by
  constructor
  · intro h
    rw [kx0] at h
    by_cases q0 : isW0 t p b
    · rw [if_pos q0] at h
      omega
    rw [if_neg q0] at h
    rw [kx1] at h
    by_cases q1 : isW1 t p b
    · rw [if_pos q1] at h
      omega
    rw [if_neg q1] at h
    rw [kx2] at h
    by_cases q2 : isW2 t p b
    · rw [if_pos q2] at h
      omega
    rw [if_neg q2] at h
    rw [kx3] at h
    by_cases q3 : isW3 t p b
    · rw [if_pos q3] at h
      omega
    rw [if_neg q3] at h
    rw [kx4] at h
    by_cases q4 : isW4 t p b
    · rw [if_pos q4] at h
      omega
    rw [if_neg q4] at h
    rw [kx5] at h
    by_cases q5 : isW5 t p b
    · rw [if_pos q5] at h
      omega
    rw [if_neg q5] at h
    rw [kx6] at h
    by_cases q6 : isW6 t p b
    · rw [if_pos q6] at h
      omega
    rw [if_neg q6] at h
    rw [kx7] at h
    by_cases q7 : isW7 t p b
    · rw [if_pos q7] at h
      omega
    rw [if_neg q7] at h
    rw [kx8] at h
    by_cases q8 : isW8 t p b
    · rw [if_pos q8] at h
      omega
    rw [if_neg q8] at h
    rw [kx9] at h
    by_cases q9 : isW9 t p b
    · rw [if_pos q9] at h
      omega
    rw [if_neg q9] at h
    rw [kx10] at h
    by_cases q10 : isW10 t p b
    · rw [if_pos q10] at h
      omega
    rw [if_neg q10] at h
    rw [kx11] at h
    by_cases q11 : isW11 t p b
    · rw [if_pos q11] at h
      omega
    rw [if_neg q11] at h
    rw [kx12] at h
    by_cases q12 : isW12 t p b
    · rw [if_pos q12] at h
      omega
    rw [if_neg q12] at h
    rw [kx13] at h
    by_cases q13 : isW13 t p b
    · rw [if_pos q13] at h
      omega
    rw [if_neg q13] at h
    rw [kx14] at h
    by_cases q14 : isW14 t p b
    · rw [if_pos q14] at h
      omega
    rw [if_neg q14] at h
    rw [kx15] at h
    by_cases q15 : isW15 t p b
    · rw [if_pos q15] at h
      omega
    rw [if_neg q15] at h
    rw [kx16] at h
    by_cases q16 : isW16 t p b
    · rw [if_pos q16] at h
      omega
    rw [if_neg q16] at h
    rw [kx17] at h
    by_cases q17 : isW17 t p b
    · exact q17
    rw [if_neg q17] at h
    have := kx18_ge (t := t) (p := p) (b := b)
    omega
  · intro h
    rw [kx0, if_neg (fun q => by omega), kx1, if_neg (fun q => by omega), kx2, if_neg (fun q => by omega), kx3, if_neg (fun q => by omega), kx4, if_neg (fun q => by omega), kx5, if_neg (fun q => by omega), kx6, if_neg (fun q => by omega), kx7, if_neg (fun q => by omega), kx8, if_neg (fun q => by omega), kx9, if_neg (fun q => by omega), kx10, if_neg (fun q => by omega), kx11, if_neg (fun q => by omega), kx12, if_neg (fun q => by omega), kx13, if_neg (fun q => by omega), kx14, if_neg (fun q => by omega), kx15, if_neg (fun q => by omega), kx16, if_neg (fun q => by omega), kx17, if_pos h]
theorem kw_18 {t : Int → Int} {p b : Int} : kx0 t p b = 18 ↔ isW18 t p b := by
  constructor
  · intro h
    rw [kx0] at h
    by_cases q0 : isW0 t p b
    · rw [if_pos q0] at h
      omega
    rw [if_neg q0] at h
    rw [kx1] at h
    by_cases q1 : isW1 t p b
    · rw [if_pos q1] at h
      omega
    rw [if_neg q1] at h
    rw [kx2] at h
    by_cases q2 : isW2 t p b
    · rw [if_pos q2] at h
      omega
    rw [if_neg q2] at h
    rw [kx3] at h
    by_cases q3 : isW3 t p b
    · rw [if_pos q3] at h
      omega
    rw [if_neg q3] at h
    rw [kx4] at h
    by_cases q4 : isW4 t p b
    · rw [if_pos q4] at h
      omega
    rw [if_neg q4] at h
    rw [kx5] at h
    by_cases q5 : isW5 t p b
    · rw [if_pos q5] at h
      omega
    rw [if_neg q5] at h
    rw [kx6] at h
    by_cases q6 : isW6 t p b
    · rw [if_pos q6] at h
      omega
    rw [if_neg q6] at h
    rw [kx7] at h
    by_cases q7 : isW7 t p b
    · rw [if_pos q7] at h
      omega
    rw [if_neg q7] at h
    rw [kx8] at h
    by_cases q8 : isW8 t p b
    · rw [if_pos q8] at h
      omega
    rw [if_neg q8] at h
    rw [kx9] at h
    by_cases q9 : isW9 t p b
    · rw [if_pos q9] at h
      omega
    rw [if_neg q9] at h
    rw [kx10] at h
    by_cases q10 : isW10 t p b
    · rw [if_pos q10] at h
      omega
    rw [if_neg q10] at h
    rw [kx11] at h
    by_cases q11 : isW11 t p b
    · rw [if_pos q11] at h
      omega
    rw [if_neg q11] at h
    rw [kx12] at h
    by_cases q12 : isW12 t p b
    · rw [if_pos q12] at h
      omega
    rw [if_neg q12] at h
    rw [kx13] at h
    by_cases q13 : isW13 t p b
    · rw [if_pos q13] at h
      omega
    rw [if_neg q13] at h
    rw [kx14] at h
    by_cases q14 : isW14 t p b
    · rw [if_pos q14] at h
      omega
    rw [if_neg q14] at h
    rw [kx15] at h
    by_cases q15 : isW15 t p b
    · rw [if_pos q15] at h
      omega
    rw [if_neg q15] at h
    rw [kx16] at h
    by_cases q16 : isW16 t p b
    · rw [if_pos q16] at h
      omega
    rw [if_neg q16] at h
    rw [kx17] at h
    by_cases q17 : isW17 t p b
    · rw [if_pos q17] at h
      omega
    rw [if_neg q17] at h
    rw [kx18] at h
    by_cases q18 : isW18 t p b
    · exact q18
    rw [if_neg q18] at h
    have := kx19_ge (t := t) (p := p) (b := b)
    omega
  · intro h
    rw [kx0, if_neg (fun q => by omega), kx1, if_neg (fun q => by omega), kx2, if_neg (fun q => by omega), kx3, if_neg (fun q => by omega), kx4, if_neg (fun q => by omega), kx5, if_neg (fun q => by omega), kx6, if_neg (fun q => by omega), kx7, if_neg (fun q => by omega), kx8, if_neg (fun q => by omega), kx9, if_neg (fun q => by omega), kx10, if_neg (fun q => by omega), kx11, if_neg (fun q => by omega), kx12, if_neg (fun q => by omega), kx13, if_neg (fun q => by omega), kx14, if_neg (fun q => by omega), kx15, if_neg (fun q => by omega), kx16, if_neg (fun q => by omega), kx17, if_neg (fun q => by omega), kx18, if_pos h]
theorem kw_19 {t : Int → Int} {p b : Int} : kx0 t p b = 19 ↔ isW19 t p b := by
  constructor
  · intro h
    rw [kx0] at h
    by_cases q0 : isW0 t p b
    · rw [if_pos q0] at h
      omega
    rw [if_neg q0] at h
    rw [kx1] at h
    by_cases q1 : isW1 t p b
    · rw [if_pos q1] at h
      omega
    rw [if_neg q1] at h
    rw [kx2] at h
    by_cases q2 : isW2 t p b
    · rw [if_pos q2] at h
      omega
    rw [if_neg q2] at h
    rw [kx3] at h
    by_cases q3 : isW3 t p b
    · rw [if_pos q3] at h
      omega
    rw [if_neg q3] at h
    rw [kx4] at h
    by_cases q4 : isW4 t p b
    · rw [if_pos q4] at h
      omega
    rw [if_neg q4] at h
    rw [kx5] at h
    by_cases q5 : isW5 t p b
    · rw [if_pos q5] at h
      omega
    rw [if_neg q5] at h
    rw [kx6] at h
    by_cases q6 : isW6 t p b
    · rw [if_pos q6] at h
      omega
    rw [if_neg q6] at h
    rw [kx7] at h
    by_cases q7 : isW7 t p b
    · rw [if_pos q7] at h
      omega
    rw [if_neg q7] at h
    rw [kx8] at h
    by_cases q8 : isW8 t p b
    · rw [if_pos q8] at h
      omega
    rw [if_neg q8] at h
    rw [kx9] at h
    by_cases q9 : isW9 t p b
    · rw [if_pos q9] at h
      omega
    rw [if_neg q9] at h
    rw [kx10] at h
    by_cases q10 : isW10 t p b
    · rw [if_pos q10] at h
      omega
    rw [if_neg q10] at h
    rw [kx11] at h
    by_cases q11 : isW11 t p b
    · rw [if_pos q11] at h
      omega
    rw [if_neg q11] at h
    rw [kx12] at h
    by_cases q12 : isW12 t p b
    · rw [if_pos q12] at h
      omega
    rw [if_neg q12] at h
    rw [kx13] at h
    by_cases q13 : isW13 t p b
    · rw [if_pos q13] at h
      omega
    rw [if_neg q13] at h
    rw [kx14] at h
    by_cases q14 : isW14 t p b
    · rw [if_pos q14] at h
      omega
    rw [if_neg q14] at h
    rw [kx15] at h
    by_cases q15 : isW15 t p b
    · rw [if_pos q15] at h
      omega
    rw [if_neg q15] at h
    rw [kx16] at h
    by_cases q16 : isW16 t p b
    · rw [if_pos q16] at h
      omega
    rw [if_neg q16] at h
    rw [kx17] at h
    by_cases q17 : isW17 t p b
    · rw [if_pos q17] at h
      omega
    rw [if_neg q17] at h
    rw [kx18] at h
    by_cases q18 : isW18 t p b
    · rw [if_pos q18] at h
      omega
    rw [if_neg q18] at h
    rw [kx19] at h
    by_cases q19 : isW19 t p b
    · exact q19
    rw [if_neg q19] at h
    have := kx20_ge (t := t) (p := p) (b := b)
    omega
  · intro h
    rw [kx0, if_neg (fun q => by omega), kx1, if_neg (fun q => by omega), kx2, if_neg (fun q => by omega), kx3, if_neg (fun q => by omega), kx4, if_neg (fun q => by omega), kx5, if_neg (fun q => by omega), kx6, if_neg (fun q => by omega), kx7, if_neg (fun q => by omega), kx8, if_neg (fun q => by omega), kx9, if_neg (fun q => by omega), kx10, if_neg (fun q => by omega), kx11, if_neg (fun q => by omega), kx12, if_neg (fun q => by omega), kx13, if_neg (fun q => by omega), kx14, if_neg (fun q => by omega), kx15, if_neg (fun q => by omega), kx16, if_neg (fun q => by omega), kx17, if_neg (fun q => by omega), kx18, if_neg (fun q => by omega), kx19, if_pos h]
theorem kw_len {t : Int → Int} {p b : Int} (h : kx0 t p b ≤ 19) : p + 2 ≤ b := by
  have g := kx0_ge (t := t) (p := p) (b := b)
  have hc : kx0 t p b = 0 ∨ kx0 t p b = 1 ∨ kx0 t p b = 2 ∨ kx0 t p b = 3 ∨ kx0 t p b = 4 ∨ kx0 t p b = 5 ∨ kx0 t p b = 6 ∨ kx0 t p b = 7 ∨ kx0 t p b = 8 ∨ kx0 t p b = 9 ∨ kx0 t p b = 10 ∨ kx0 t p b = 11 ∨ kx0 t p b = 12 ∨ kx0 t p b = 13 ∨ kx0 t p b = 14 ∨ kx0 t p b = 15 ∨ kx0 t p b = 16 ∨ kx0 t p b = 17 ∨ kx0 t p b = 18 ∨ kx0 t p b = 19 := by omega
  rcases hc with h | h | h | h | h | h | h | h | h | h | h | h | h | h | h | h | h | h | h | h
  · have q := kw_0.mp h
    omega
  · have q := kw_1.mp h
    omega
  · have q := kw_2.mp h
    omega
  · have q := kw_3.mp h
    omega
  · have q := kw_4.mp h
    omega
  · have q := kw_5.mp h
    omega
  · have q := kw_6.mp h
    omega
  · have q := kw_7.mp h
    omega
  · have q := kw_8.mp h
    omega
  · have q := kw_9.mp h
    omega
  · have q := kw_10.mp h
    omega
  · have q := kw_11.mp h
    omega
  · have q := kw_12.mp h
    omega
  · have q := kw_13.mp h
    omega
  · have q := kw_14.mp h
    omega
  · have q := kw_15.mp h
    omega
  · have q := kw_16.mp h
    omega
  · have q := kw_17.mp h
    omega
  · have q := kw_18.mp h
    omega
  · have q := kw_19.mp h
    omega
def tPl (t : Int → Int) (n b : Int) : Int := tBl t (n - b).toNat b
def tBe (t : Int → Int) (n q : Int) : Int := if n ≤ q then q else if 97 ≤ t q ∧ t q ≤ 122 then tSm t (n - q).toNat q else if 48 ≤ t q ∧ t q ≤ 57 then tDg t (n - q).toNat q else q + 1
def tKd (t : Int → Int) (n q : Int) : Int := if n ≤ q then 25 else if 97 ≤ t q ∧ t q ≤ 122 then kx0 t q (tBe t n q) else if 48 ≤ t q ∧ t q ≤ 57 then (if 3 < tBe t n q - q then 26 else 21) else if t q = 59 then 22 else if t q = 40 then 23 else if t q = 41 then 24 else 26
def tNu (t : Int → Int) (n q v : Int) : Int := if n ≤ q then v else if 97 ≤ t q ∧ t q ≤ 122 then v else if 48 ≤ t q ∧ t q ≤ 57 then tNum t q (tBe t n q - q) else v
abbrev PS : Type := Int × Int × Int × Int × Int × Int × Int × Int × Int × (Int → Int)
def put (M : jM) (s : PS) : jM := fun k j => if k = 932 then s.2.2.2.2.2.2.2.2.2 j else if k = 928 then (if j = 6 then s.1 else if j = 7 then s.2.1 else if j = 9 then s.2.2.1 else if j = 10 then s.2.2.2.1 else if j = 11 then s.2.2.2.2.1 else if j = 12 then s.2.2.2.2.2.1 else if j = 13 then s.2.2.2.2.2.2.1 else if j = 14 then s.2.2.2.2.2.2.2.1 else if j = 15 then s.2.2.2.2.2.2.2.2.1 else M k j) else M k j
section
variable {M : jM} {s : PS} {x i k j : Int}
theorem put_r6 : put M s 928 6 = s.1 := rfl
theorem put_w6 : jset (put M s) 928 6 x = put M (x, s.2) := by
  funext k2 j2
  unfold jset put
  by_cases h : k2 = 928
  · by_cases h2 : j2 = 6
    · simp [h, h2]
    · simp [h, h2]
  · simp [h]
theorem put_r7 : put M s 928 7 = s.2.1 := rfl
theorem put_w7 : jset (put M s) 928 7 x = put M (s.1, x, s.2.2) := by
  funext k2 j2
  unfold jset put
  by_cases h : k2 = 928
  · by_cases h2 : j2 = 7
    · simp [h, h2]
    · simp [h, h2]
  · simp [h]
theorem put_r9 : put M s 928 9 = s.2.2.1 := rfl
theorem put_w9 : jset (put M s) 928 9 x = put M (s.1, s.2.1, x, s.2.2.2) := by
  funext k2 j2
  unfold jset put
  by_cases h : k2 = 928
  · by_cases h2 : j2 = 9
    · simp [h, h2]
    · simp [h, h2]
  · simp [h]
theorem put_r10 : put M s 928 10 = s.2.2.2.1 := rfl
theorem put_w10 : jset (put M s) 928 10 x = put M (s.1, s.2.1, s.2.2.1, x, s.2.2.2.2) := by
  funext k2 j2
  unfold jset put
  by_cases h : k2 = 928
  · by_cases h2 : j2 = 10
    · simp [h, h2]
    · simp [h, h2]
  · simp [h]
theorem put_r11 : put M s 928 11 = s.2.2.2.2.1 := rfl
theorem put_w11 : jset (put M s) 928 11 x = put M (s.1, s.2.1, s.2.2.1, s.2.2.2.1, x, s.2.2.2.2.2) := by
  funext k2 j2
  unfold jset put
  by_cases h : k2 = 928
  · by_cases h2 : j2 = 11
    · simp [h, h2]
    · simp [h, h2]
  · simp [h]
theorem put_r12 : put M s 928 12 = s.2.2.2.2.2.1 := rfl
theorem put_w12 : jset (put M s) 928 12 x = put M (s.1, s.2.1, s.2.2.1, s.2.2.2.1, s.2.2.2.2.1, x, s.2.2.2.2.2.2) := by
  funext k2 j2
  unfold jset put
  by_cases h : k2 = 928
  · by_cases h2 : j2 = 12
    · simp [h, h2]
    · simp [h, h2]
  · simp [h]
theorem put_r13 : put M s 928 13 = s.2.2.2.2.2.2.1 := rfl
theorem put_w13 : jset (put M s) 928 13 x = put M (s.1, s.2.1, s.2.2.1, s.2.2.2.1, s.2.2.2.2.1, s.2.2.2.2.2.1, x, s.2.2.2.2.2.2.2) := by
  funext k2 j2
  unfold jset put
  by_cases h : k2 = 928
  · by_cases h2 : j2 = 13
    · simp [h, h2]
    · simp [h, h2]
  · simp [h]
theorem put_r14 : put M s 928 14 = s.2.2.2.2.2.2.2.1 := rfl
theorem put_w14 : jset (put M s) 928 14 x = put M (s.1, s.2.1, s.2.2.1, s.2.2.2.1, s.2.2.2.2.1, s.2.2.2.2.2.1, s.2.2.2.2.2.2.1, x, s.2.2.2.2.2.2.2.2) := by
  funext k2 j2
  unfold jset put
  by_cases h : k2 = 928
  · by_cases h2 : j2 = 14
    · simp [h, h2]
    · simp [h, h2]
  · simp [h]
theorem put_r15 : put M s 928 15 = s.2.2.2.2.2.2.2.2.1 := rfl
theorem put_w15 : jset (put M s) 928 15 x = put M (s.1, s.2.1, s.2.2.1, s.2.2.2.1, s.2.2.2.2.1, s.2.2.2.2.2.1, s.2.2.2.2.2.2.1, s.2.2.2.2.2.2.2.1, x, s.2.2.2.2.2.2.2.2.2) := by
  funext k2 j2
  unfold jset put
  by_cases h : k2 = 928
  · by_cases h2 : j2 = 15
    · simp [h, h2]
    · simp [h, h2]
  · simp [h]
theorem put_ra : put M s 932 = s.2.2.2.2.2.2.2.2.2 := rfl
theorem put_r8 : put M s 928 8 = M 928 8 := rfl
theorem put_r0 : put M s 928 0 = M 928 0 := rfl
theorem put_r5 : put M s 928 5 = M 928 5 := rfl
theorem put_rt : put M s 931 = M 931 := rfl
theorem put_wa : jset (put M s) 932 i x = put M (s.1, s.2.1, s.2.2.1, s.2.2.2.1, s.2.2.2.2.1, s.2.2.2.2.2.1, s.2.2.2.2.2.2.1, s.2.2.2.2.2.2.2.1, s.2.2.2.2.2.2.2.2.1, upd1 s.2.2.2.2.2.2.2.2.2 i x) := by
  funext k2 j2
  unfold jset put upd1
  by_cases h : k2 = 932
  · by_cases h2 : j2 = i
    · simp [h, h2]
    · simp [h, h2]
  · simp [h]
theorem put_o (h1 : k ≠ 932) (h2 : k ≠ 928) : put M s k = M k := by
  funext j2
  unfold put
  rw [if_neg h1, if_neg h2]
end
def pNext (t : Int → Int) (n : Int) (s : PS) : PS := (tPl t n s.2.1, tBe t n (tPl t n s.2.1), tKd t n (tPl t n s.2.1), tNu t n (tPl t n s.2.1) s.2.2.2.1, s.2.2.2.2)
def pFail (f : Int) (s : PS) : PS := if s.2.2.2.2.1 ≠ 0 then s else (s.1, s.2.1, s.2.2.1, s.2.2.2.1, if s.2.2.1 = 26 then 1 else f, s.1, s.2.2.2.2.2.2)
def pMust (t : Int → Int) (n k : Int) (s : PS) : PS := if s.2.2.2.2.1 = 0 ∧ s.2.2.1 = k then pNext t n s else pFail 2 s
def pRd1 (lo hi : Int) (s : PS) : PS := if ¬ (s.2.2.2.2.1 = 0 ∧ s.2.2.1 = 21) then pFail 2 s else if ¬ (lo ≤ s.2.2.2.1 ∧ s.2.2.2.1 ≤ hi) then pFail 3 s else s
def pRead (t : Int → Int) (n lo hi : Int) (s : PS) : PS := if (pRd1 lo hi s).2.2.2.2.1 = 0 then pNext t n (pRd1 lo hi s) else pRd1 lo hi s
