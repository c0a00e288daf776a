/-! TRIPS *** links; the class *** -/
theorem sel_snoc {m : Nat} {g : Nat → Int} : ∀ n i : Nat, selF m g (n + 1) i = selF m g n i ++ (if m.testBit (i + n) then [g (i + n)] else [])
  | 0, i => by
    rw [selF, selF, selF, Nat.add_zero]
    rfl
  | n + 1, i => by
    rw [selF, sel_snoc n (i + 1), selF, show i + 1 + n = i + (n + 1) by omega]
    by_cases e : m.testBit i = true
    · rw [if_pos e, if_pos e]
      rfl
    · rw [if_neg e, if_neg e]
theorem sumL_snoc {F : Int → Int} {x : Int} : ∀ (l : List Int) (s : Int), sumL F (l ++ [x]) s = sumL F l s + F x
  | [], s => rfl
  | y :: l, s => sumL_snoc l (s + F y)
theorem maxL_snoc {F : Int → Int} {x : Int} : ∀ (l : List Int) (s : Int), maxL F (l ++ [x]) s = max (maxL F l s) (F x)
  | [], s => by
    show (if s < F x then F x else s) = max s (F x)
    split <;> omega
  | y :: l, s => maxL_snoc l _
theorem sumL_sel {F f : Int → Int} {g : Nat → Int} {S : Nat} : ∀ n : Nat, (∀ j : Nat, j < n → f j = F (g j)) → sumL F (selF S g n 0) 0 = sumS f n S
  | 0, _ => rfl
  | n + 1, h => by
    rw [sel_snoc, sumS, Nat.zero_add]
    have ih := sumL_sel (S := S) n (fun j hj => h j (by omega))
    by_cases e : S.testBit n = true
    · rw [if_pos e, if_pos e, sumL_snoc, ih, h n (by omega)]
    · rw [if_neg e, if_neg e, List.append_nil, ih]
theorem maxL_sel {F f : Int → Int} {g : Nat → Int} {S : Nat} : ∀ n : Nat, (∀ j : Nat, j < n → f j = F (g j)) → maxL F (selF S g n 0) 0 = mostS f n S
  | 0, _ => rfl
  | n + 1, h => by
    rw [sel_snoc, mostS, Nat.zero_add]
    have ih := maxL_sel (S := S) n (fun j hj => h j (by omega))
    by_cases e : S.testBit n = true
    · rw [if_pos e, if_pos e, maxL_snoc, ih, h n (by omega)]
    · rw [if_neg e, if_neg e, List.append_nil, ih]
theorem sel_full {l : List Int} : ∀ n : Nat, n ≤ l.length → ∀ m : Nat, (∀ j, j < n → m.testBit j = true) → selF m (fun j => l.getD j 0) n 0 = l.take n
  | 0, _, _, _ => rfl
  | n + 1, h, m, hm => by
    rw [sel_snoc, Nat.zero_add, if_pos (hm n (by omega)), sel_full n (by omega) m (fun j hj => hm j (by omega)), List.take_add_one, List.getD_eq_getElem?_getD, List.getElem?_eq_getElem (by omega)]
    rfl
theorem sel_pick {bits fr : Int} {b : Nat} (hb : bits = b) (hb8 : b < 256) : ∀ n : Nat, n ≤ 8 → selF b (fun j => fr + j) n 0 = pickL bits fr n
  | 0, _ => rfl
  | n + 1, h => by
    have q := jbit ⟨b, hb8⟩ ⟨n, by omega⟩
    have q2 : jand (jshr bits n) 1 = if b.testBit n then 1 else 0 := by rw [hb]; exact q
    rw [sel_snoc, Nat.zero_add, pickL, q2, sel_pick hb hb8 n (by omega)]
    by_cases e : b.testBit n = true
    · rw [if_pos e, if_pos e, if_pos rfl]
    · rw [if_neg e, if_neg e, if_neg (by omega), List.append_nil]
def tripT (a : Int → Int) (arms : Int) (p : List Int) (t : Int) : Prop := sumL (sizeOfP a) p 0 ≤ arms ∧ t = 2 * maxL (stepsOf a) p 0
theorem tripT.uq {a : Int → Int} {arms : Int} {p : List Int} {t t2 : Int} (h : tripT a arms p t) (h2 : tripT a arms p t2) : t2 = t := by rw [h.2, h2.2]
theorem and_tp {p b : Nat} : (p &&& 2 ^ b = 0 ↔ p.testBit b = false) := by
  constructor
  · intro h
    have e : (p &&& 2 ^ b).testBit b = (p.testBit b && true) := by rw [Nat.testBit_and, Nat.testBit_two_pow, decide_eq_true rfl]
    rw [h, Nat.zero_testBit, Bool.and_true] at e
    exact e.symm
  · intro h
    apply Nat.eq_of_testBit_eq
    intro i
    rw [Nat.testBit_and, Nat.testBit_two_pow, Nat.zero_testBit]
    by_cases e : b = i
    · rw [← e, h]
      rfl
    · rw [decide_eq_false e, Bool.and_false]
/-- where the parts come behind p -/
theorem sub_iff {n p q m : Nat} (hm : m < 2 ^ n) (h0 : 0 < p) (hp : p &&& m = p) (hq : q &&& m = q) : (p - 1) &&& m < q ↔ p < q ∨ q = p := by
  have a : (p - 1) &&& m ≤ p - 1 := Nat.and_le_left
  by_cases e : q < p
  · have := sub_next n p q m hm hp hq e
    omega
  · omega
theorem sub_step {p m : Nat} : ((p - 1) &&& m) &&& m = (p - 1) &&& m := by
  rw [Nat.and_assoc, Nat.and_self]
/-- the sums for these pledges -/
def Items (a : Int → Int) (g : Nat → Int) (n : Nat) (Y : jM) : Prop := ∀ S : Nat, S < 2 ^ n → Y 906 S = sumL (sizeOfP a) (selF S g n 0) 0 ∧ Y 909 S = maxL (stepsOf a) (selF S g n 0) 0 ∧ (0 ≤ Y 906 S ∧ Y 906 S ≤ 1800000000) ∧ 0 ≤ Y 909 S ∧ Y 909 S ≤ 99
