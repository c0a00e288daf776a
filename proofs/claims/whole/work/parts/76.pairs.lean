/-! TRIPS *** parts of a list, ways to bring it *** no program *** -/
def selF (m : Nat) (g : Nat → Int) : Nat → Nat → List Int
  | 0, _ => []
  | n + 1, i => if m.testBit i then g i :: selF m g n (i + 1) else selF m g n (i + 1)
def Sp : List Int → List Int → List Int → Prop
  | [], p, r => p = [] ∧ r = []
  | x :: l, p, r => (∃ q, p = x :: q ∧ Sp l q r) ∨ (∃ q, r = x :: q ∧ Sp l p q)
def sumL (F : Int → Int) : List Int → Int → Int
  | [], s => s
  | x :: l, s => sumL F l (s + F x)
def maxL (F : Int → Int) : List Int → Int → Int
  | [], s => s
  | x :: l, s => maxL F l (if s < F x then F x else s)
/-- k goes that bring l cost c -/
def AchK (T : List Int → Int → Prop) : Nat → List Int → Int → Prop
  | 0, l, c => l = [] ∧ c = 0
  | k + 1, l, c => ∃ p r t d, Sp l p r ∧ p ≠ [] ∧ T p t ∧ AchK T k r d ∧ c = t + d
def Lst (T : List Int → Int → Prop) (l : List Int) (no v : Int) : Prop := (v = no ∧ ∀ k c, ¬ AchK T k l c) ∨ (v ≠ no ∧ (∃ k, AchK T k l v) ∧ ∀ k c, AchK T k l c → v ≤ c)
theorem Lst.same {T : List Int → Int → Prop} {l : List Int} {no no2 v w : Int} (h : Lst T l no v) (h2 : Lst T l no2 w) : (v = no ∧ w = no2) ∨ (v ≠ no ∧ w ≠ no2 ∧ v = w) := by
  rcases h with ⟨a, b⟩ | ⟨a, ⟨k, b⟩, c⟩ <;> rcases h2 with ⟨a2, b2⟩ | ⟨a2, ⟨k2, b2⟩, c2⟩
  · exact Or.inl ⟨a, a2⟩
  · exact absurd b2 (b k2 w)
  · exact absurd b (b2 k v)
  · have := c k2 w b2
    have := c2 k v b
    exact Or.inr ⟨a, a2, by omega⟩
theorem Sp.swap : ∀ {l p r q s : List Int}, Sp l p r → Sp r q s → ∃ r3, Sp l q r3 ∧ Sp r3 p s
  | [], p, r, q, s, h, h2 => by
    obtain ⟨h3, h4⟩ := h
    subst h3 h4
    obtain ⟨h5, h6⟩ := h2
    subst h5 h6
    exact ⟨[], ⟨rfl, rfl⟩, ⟨rfl, rfl⟩⟩
  | x :: l, p, r, q, s, h, h2 => by
    rcases h with ⟨p2, e, h⟩ | ⟨r2, e, h⟩
    · obtain ⟨r3, a, b⟩ := Sp.swap h h2
      exact ⟨x :: r3, Or.inr ⟨r3, rfl, a⟩, Or.inl ⟨p2, e, b⟩⟩
    · subst e
      rcases h2 with ⟨q2, e2, h2⟩ | ⟨s2, e2, h2⟩
      · obtain ⟨r3, a, b⟩ := Sp.swap h h2
        exact ⟨r3, Or.inl ⟨q2, e2, a⟩, b⟩
      · obtain ⟨r3, a, b⟩ := Sp.swap h h2
        exact ⟨x :: r3, Or.inr ⟨r3, rfl, a⟩, Or.inr ⟨s2, e2, b⟩⟩
/-- the first of them may be brought first -/
theorem AchK.head {T : List Int → Int → Prop} : ∀ {k : Nat} {x : Int} {l : List Int} {c : Int}, AchK T k (x :: l) c → ∃ p r t d j, Sp l p r ∧ T (x :: p) t ∧ AchK T j r d ∧ c = t + d
  | 0, x, l, c, h => by
    exact absurd h.1 (List.cons_ne_nil x l)
  | k + 1, x, l, c, h => by
    obtain ⟨p, r, t, d, hs, hp, ht, hr, hc⟩ := h
    rcases hs with ⟨q, e, hs⟩ | ⟨q, e, hs⟩
    · subst e
      exact ⟨q, r, t, d, k, hs, ht, hr, hc⟩
    · subst e
      obtain ⟨p2, r2, t2, d2, j, a, b, e2, e3⟩ := AchK.head hr
      obtain ⟨r3, f, g⟩ := Sp.swap hs a
      exact ⟨p2, r3, t2, t + d2, j + 1, f, b, ⟨p, r2, t, d2, g, hp, ht, e2, rfl⟩, by omega⟩
theorem sel_cong {m q : Nat} {g : Nat → Int} : ∀ (n i : Nat), (∀ j, i ≤ j → j < i + n → m.testBit j = q.testBit j) → selF m g n i = selF q g n i
  | 0, i, _ => rfl
  | n + 1, i, h => by
    rw [selF, selF, h i (by omega) (by omega), sel_cong n (i + 1) (fun j a b => h j (by omega) (by omega))]
theorem sel_sp {m q : Nat} {g : Nat → Int} (h : ∀ i, q.testBit i = true → m.testBit i = true) : ∀ n i : Nat, Sp (selF m g n i) (selF q g n i) (selF (m ^^^ q) g n i)
  | 0, i => ⟨rfl, rfl⟩
  | n + 1, i => by
    have ih := sel_sp (g := g) h n (i + 1)
    rw [selF, selF, selF, Nat.testBit_xor]
    by_cases e : m.testBit i = true
    · by_cases e2 : q.testBit i = true
      · rw [if_pos e, if_pos e2, if_neg (by rw [e, e2]; decide)]
        exact Or.inl ⟨_, rfl, ih⟩
      · rw [if_pos e, if_neg e2, if_pos (by rw [e, Bool.eq_false_iff.mpr e2]; decide)]
        exact Or.inr ⟨_, rfl, ih⟩
    · have e2 : ¬ q.testBit i = true := fun z => e (h i z)
      rw [if_neg e, if_neg e2, if_neg (by rw [Bool.eq_false_iff.mpr e, Bool.eq_false_iff.mpr e2]; decide)]
      exact ih
theorem sel_ps {m : Nat} {g : Nat → Int} : ∀ (n i : Nat) {p r : List Int}, Sp (selF m g n i) p r → ∃ q : Nat, (∀ j, q.testBit j = true → m.testBit j = true ∧ i ≤ j ∧ j < i + n) ∧ selF q g n i = p ∧ selF (m ^^^ q) g n i = r
  | 0, i, p, r, h => ⟨0, fun j a => by rw [Nat.zero_testBit] at a; exact absurd a (by decide), h.1.symm, h.2.symm⟩
  | n + 1, i, p, r, h => by
    rw [selF] at h
    by_cases e : m.testBit i = true
    · rw [if_pos e] at h
      rcases h with ⟨s, es, h⟩ | ⟨s, es, h⟩
      · obtain ⟨q, a, b, c⟩ := sel_ps n (i + 1) h
        have hb : ∀ j, (q ||| 2 ^ i).testBit j = (q.testBit j || decide (i = j)) := fun j => by rw [Nat.testBit_or, Nat.testBit_two_pow]
        refine ⟨q ||| 2 ^ i, fun j d => ?_, ?_, ?_⟩
        · rw [hb] at d
          by_cases f : i = j
          · rw [← f]
            exact ⟨e, by omega, by omega⟩
          · rw [decide_eq_false f, Bool.or_false] at d
            have := a j d
            exact ⟨this.1, by omega, by omega⟩
        · rw [selF, if_pos (by rw [hb, decide_eq_true rfl, Bool.or_true]), es, ← b]
          congr 1
          refine sel_cong n (i + 1) (fun j d f => ?_)
          rw [hb, decide_eq_false (by omega), Bool.or_false]
        · rw [selF, if_neg (by rw [Nat.testBit_xor, hb, e, decide_eq_true rfl, Bool.or_true]; decide), ← c]
          refine sel_cong n (i + 1) (fun j d f => ?_)
          rw [Nat.testBit_xor, Nat.testBit_xor, hb, decide_eq_false (by omega), Bool.or_false]
      · obtain ⟨q, a, b, c⟩ := sel_ps n (i + 1) h
        have hq : q.testBit i = false := Bool.eq_false_iff.mpr (fun z => by have := a i z; omega)
        refine ⟨q, fun j d => ⟨(a j d).1, by have := a j d; omega, by have := a j d; omega⟩, ?_, ?_⟩
        · rw [selF, if_neg (by rw [hq]; decide)]
          exact b
        · rw [selF, if_pos (by rw [Nat.testBit_xor, hq, e]; decide), es, c]
    · rw [if_neg e] at h
      obtain ⟨q, a, b, c⟩ := sel_ps n (i + 1) h
      have hq : q.testBit i = false := Bool.eq_false_iff.mpr (fun z => by have := a i z; omega)
      refine ⟨q, fun j d => ⟨(a j d).1, by have := a j d; omega, by have := a j d; omega⟩, ?_, ?_⟩
      · rw [selF, if_neg (by rw [hq]; decide)]
        exact b
      · rw [selF, if_neg (by rw [Nat.testBit_xor, hq, Bool.eq_false_iff.mpr e]; decide)]
        exact c
theorem sel_nil {m : Nat} {g : Nat → Int} : ∀ n i : Nat, selF m g n i = [] → ∀ j, i ≤ j → j < i + n → m.testBit j = false
  | 0, i, _, j, a, b => by omega
  | n + 1, i, h, j, a, b => by
    rw [selF] at h
    by_cases e : m.testBit i = true
    · rw [if_pos e] at h
      exact absurd h (List.cons_ne_nil _ _)
    · rw [if_neg e] at h
      by_cases f : j = i
      · rw [f]
        exact Bool.eq_false_iff.mpr e
      · exact sel_nil n (i + 1) h j (by omega) (by omega)
theorem tb_low {m n j : Nat} (h : m < 2 ^ n) (hj : n ≤ j) : m.testBit j = false := Nat.testBit_lt_two_pow (Nat.lt_of_lt_of_le h (Nat.pow_le_pow_right (by decide) hj))
theorem sel_zero {m n : Nat} {g : Nat → Int} (hm : m < 2 ^ n) (h : selF m g n 0 = []) : m = 0 := by
  apply Nat.eq_of_testBit_eq
  intro j
  rw [Nat.zero_testBit]
  by_cases e : j < n
  · exact sel_nil n 0 h j (by omega) (by omega)
  · exact tb_low hm (by omega)
theorem sel_0 {g : Nat → Int} : ∀ n i : Nat, selF 0 g n i = []
  | 0, i => rfl
  | n + 1, i => by
    rw [selF, if_neg (by rw [Nat.zero_testBit]; decide)]
    exact sel_0 n (i + 1)
theorem sub_bits {q m : Nat} (h : q &&& m = q) {i : Nat} (hi : q.testBit i = true) : m.testBit i = true := by
  rw [← h, Nat.testBit_and] at hi
  exact (Bool.and_eq_true _ _ ▸ hi).2
theorem sub_of {q m : Nat} (h : ∀ i, q.testBit i = true → m.testBit i = true) : q &&& m = q := by
  apply Nat.eq_of_testBit_eq
  intro j
  rw [Nat.testBit_and]
  by_cases e : q.testBit j = true
  · rw [e, h j e]
    rfl
  · rw [Bool.eq_false_iff.mpr e]
    rfl
theorem and_2 (a b : Nat) : (a &&& b) / 2 = a / 2 &&& b / 2 ∧ (a &&& b) % 2 = (a % 2) * (b % 2) := by
  refine ⟨Nat.and_div_two, ?_⟩
  have e : (a &&& b) % 2 = a % 2 &&& b % 2 := Nat.and_mod_two_pow (n := 1)
  rw [e]
  rcases (by omega : a % 2 = 0 ∨ a % 2 = 1) with x | x <;> rcases (by omega : b % 2 = 0 ∨ b % 2 = 1) with y | y <;> rw [x, y] <;> rfl
/-- behind p comes the next lower part -/
theorem sub_next : ∀ (n p q m : Nat), m < 2 ^ n → p &&& m = p → q &&& m = q → q < p → q ≤ (p - 1) &&& m
  | 0, p, q, m, hm, hp, hq, h => by
    have e : m = 0 := by simpa using hm
    rw [e, Nat.and_zero] at hp
    omega
  | n + 1, p, q, m, hm, hp, hq, h => by
    have a := and_2 p m
    have b := and_2 q m
    have c := and_2 (p - 1) m
    rw [hp] at a
    rw [hq] at b
    rw [Nat.pow_succ] at hm
    rcases (by omega : p % 2 = 0 ∨ p % 2 = 1) with x | x
    · have ih := sub_next n (p / 2) (q / 2) (m / 2) (by omega) a.1.symm b.1.symm (by omega)
      have e1 : (p - 1) / 2 = p / 2 - 1 := by omega
      have e2 : (p - 1) % 2 = 1 := by omega
      rw [e1, e2, Nat.one_mul] at c
      have d : q % 2 ≤ m % 2 := by
        rcases (by omega : m % 2 = 0 ∨ m % 2 = 1) with y | y
        · rw [y, Nat.mul_zero] at b
          omega
        · omega
      omega
    · have e1 : (p - 1) / 2 = p / 2 := by omega
      rw [e1, ← a.1] at c
      omega
theorem xor_2 (a b : Nat) : (a ^^^ b) / 2 = a / 2 ^^^ b / 2 ∧ (a ^^^ b) % 2 = (a % 2 + b % 2) % 2 := by
  refine ⟨Nat.xor_div_two, ?_⟩
  have e : (a ^^^ b) % 2 = a % 2 ^^^ b % 2 := Nat.xor_mod_two_pow (n := 1)
  rw [e]
  rcases (by omega : a % 2 = 0 ∨ a % 2 = 1) with x | x <;> rcases (by omega : b % 2 = 0 ∨ b % 2 = 1) with y | y <;> rw [x, y] <;> rfl
theorem sub_xor : ∀ (n q m : Nat), m < 2 ^ n → q &&& m = q → q ≤ m ∧ m ^^^ q = m - q
  | 0, q, m, hm, hq => by
    have e : m = 0 := by simpa using hm
    rw [e, Nat.and_zero] at hq
    rw [← hq, e]
    exact ⟨Nat.le_refl 0, rfl⟩
  | n + 1, q, m, hm, hq => by
    have b := and_2 q m
    have c := xor_2 m q
    rw [hq] at b
    rw [Nat.pow_succ] at hm
    have ih := sub_xor n (q / 2) (m / 2) (by omega) b.1.symm
    have d : q % 2 ≤ m % 2 := by
      rcases (by omega : m % 2 = 0 ∨ m % 2 = 1) with y | y
      · rw [y, Nat.mul_zero] at b
        omega
      · omega
    rw [ih.2] at c
    refine ⟨by omega, by omega⟩
