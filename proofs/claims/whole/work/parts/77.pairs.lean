/-! TRIPS *** ways by parts; bits of small numbers *** no program *** -/
def Way (T : List Int → Int → Prop) (g : Nat → Int) (n m q : Nat) (c : Int) : Prop := ∃ k t d, T (selF q g n 0) t ∧ AchK T k (selF (m ^^^ q) g n 0) d ∧ c = t + d
def Part (T : List Int → Int → Prop) (g : Nat → Int) (n m : Nat) (no : Int) (P : Nat → Prop) (v : Int) : Prop := (v = no ∧ ∀ q c, P q → ¬ Way T g n m q c) ∨ (v ≠ no ∧ (∃ q, P q ∧ Way T g n m q v) ∧ ∀ q c, P q → Way T g n m q c → v ≤ c)
section
variable {T : List Int → Int → Prop} {g : Nat → Int} {n m : Nat} {no v w : Int} {P R : Nat → Prop}
theorem Part.nil (h : ∀ q, ¬ P q) : Part T g n m no P no := Or.inl ⟨rfl, fun q _ a => absurd a (h q)⟩
theorem Part.cong (h : Part T g n m no P v) (e : ∀ q, P q ↔ R q) : Part T g n m no R v := by
  rw [show R = P from funext fun q => propext (e q).symm]
  exact h
theorem Part.skip {q : Nat} (h : Part T g n m no P v) (hq : ∀ c, ¬ Way T g n m q c) (e : ∀ r, R r ↔ P r ∨ r = q) : Part T g n m no R v := by
  rcases h with ⟨a, b⟩ | ⟨a, ⟨r, b, c⟩, d⟩
  · refine Or.inl ⟨a, fun r c hr => ?_⟩
    rcases (e r).mp hr with z | z
    · exact b r c z
    · rw [z]
      exact hq c
  · refine Or.inr ⟨a, ⟨r, (e r).mpr (Or.inl b), c⟩, fun s u hs hw => ?_⟩
    rcases (e s).mp hs with z | z
    · exact d s u z hw
    · rw [z] at hw
      exact absurd hw (hq u)
theorem Part.put {q : Nat} {u : Int} (h : Part T g n m no P v) (hq : Way T g n m q u) (hl : ∀ c, Way T g n m q c → u ≤ c) (hu : u ≠ no) (h1 : v = no → w = u) (h2 : v ≠ no → w ≤ v ∧ w ≤ u ∧ (w = v ∨ w = u)) (e : ∀ r, R r ↔ P r ∨ r = q) : Part T g n m no R w := by
  rcases h with ⟨a, b⟩ | ⟨a, ⟨r, b, c⟩, d⟩
  · have hw := h1 a
    subst hw
    refine Or.inr ⟨hu, ⟨q, (e q).mpr (Or.inr rfl), hq⟩, fun s z hs hz => ?_⟩
    rcases (e s).mp hs with y | y
    · exact absurd hz (b s z y)
    · rw [y] at hz
      exact hl z hz
  · have hw := h2 a
    refine Or.inr ⟨by rcases hw.2.2 with z | z <;> omega, ?_, fun s z hs hz => ?_⟩
    · rcases hw.2.2 with z | z
      · exact ⟨r, (e r).mpr (Or.inl b), by rw [z]; exact c⟩
      · exact ⟨q, (e q).mpr (Or.inr rfl), by rw [z]; exact hq⟩
    · rcases (e s).mp hs with y | y
      · have := d s z y hz
        omega
      · rw [y] at hz
        have := hl z hz
        omega
theorem way_no1 {q : Nat} (h : ∀ t, ¬ T (selF q g n 0) t) (c : Int) : ¬ Way T g n m q c := fun ⟨_, t, _, a, _, _⟩ => h t a
theorem way_no2 {q : Nat} (h : Lst T (selF (m ^^^ q) g n 0) no no) (c : Int) : ¬ Way T g n m q c := fun ⟨k, _, d, _, a, _⟩ => by
  rcases h with ⟨_, b⟩ | ⟨b, _⟩
  · exact b k d a
  · exact b rfl
theorem way_yes {q : Nat} {t u : Int} (hT : T (selF q g n 0) t) (hu : ∀ t2, T (selF q g n 0) t2 → t2 = t) (h : Lst T (selF (m ^^^ q) g n 0) no u) (hn : u ≠ no) : Way T g n m q (t + u) ∧ ∀ c, Way T g n m q c → t + u ≤ c := by
  rcases h with ⟨a, _⟩ | ⟨_, ⟨k, b⟩, c⟩
  · exact absurd a hn
  · refine ⟨⟨k, t, u, hT, b, rfl⟩, fun z ⟨j, t2, d, x, y, e⟩ => ?_⟩
    have := hu t2 x
    have := c j d y
    omega
theorem sel_ne {q : Nat} (hq : q < 2 ^ n) (h0 : q ≠ 0) : selF q g n 0 ≠ [] := fun z => h0 (sel_zero hq z)
theorem sub_lt {q : Nat} (hm : m < 2 ^ n) (h : q &&& m = q) : q < 2 ^ n := by
  have := (sub_xor n q m hm h).1
  omega
theorem Part.all (hm : m < 2 ^ n) (h0 : m ≠ 0) (h : Part T g n m no (fun q => q &&& m = q ∧ 0 < q) v) : Lst T (selF m g n 0) no v := by
  have hto : ∀ k c, AchK T k (selF m g n 0) c → ∃ q, (q &&& m = q ∧ 0 < q) ∧ Way T g n m q c := fun k c hc => by
    cases k with
    | zero => exact absurd hc.1 (sel_ne hm h0)
    | succ k =>
      obtain ⟨p, r, t, d, hs, hp, ht, hr, e⟩ := hc
      obtain ⟨q, a, b, c2⟩ := sel_ps n 0 hs
      have hqm := sub_of (fun i hi => (a i hi).1)
      refine ⟨q, ⟨hqm, Nat.pos_of_ne_zero (fun z => hp (by rw [← b, z, sel_0]))⟩, k, t, d, by rw [b]; exact ht, by rw [c2]; exact hr, e⟩
  have hfrom : ∀ q c, q &&& m = q → 0 < q → Way T g n m q c → ∃ k, AchK T k (selF m g n 0) c := fun q c a b hw => by
    obtain ⟨k, t, d, x, y, z⟩ := hw
    exact ⟨k + 1, selF q g n 0, selF (m ^^^ q) g n 0, t, d, sel_sp (fun i hi => sub_bits a hi) n 0, sel_ne (sub_lt hm a) (by omega), x, y, z⟩
  rcases h with ⟨a, b⟩ | ⟨a, ⟨q, b, c⟩, d⟩
  · refine Or.inl ⟨a, fun k c hc => ?_⟩
    obtain ⟨q, x, y⟩ := hto k c hc
    exact b q c x y
  · refine Or.inr ⟨a, hfrom q v b.1 b.2 c, fun k z hz => ?_⟩
    obtain ⟨r, x, y⟩ := hto k z hz
    exact d r z x y
theorem sel_skip : ∀ (k i : Nat), (∀ j, i ≤ j → j < i + k → m.testBit j = false) → selF m g (k + n) i = selF m g n (i + k)
  | 0, i, _ => by
    rw [Nat.zero_add]
    rfl
  | k + 1, i, h => by
    rw [show k + 1 + n = k + n + 1 by omega, selF, if_neg (by rw [h i (by omega) (by omega)]; decide), sel_skip k (i + 1) (fun j a b => h j (by omega) (by omega)), show i + 1 + k = i + (k + 1) by omega]
theorem sel_ph {i : Nat} {s r : List Int} (e : m.testBit i = true) (h : Sp (selF m g n (i + 1)) s r) : ∃ q : Nat, (∀ j, q.testBit j = true → m.testBit j = true ∧ i ≤ j) ∧ q.testBit i = true ∧ selF q g (n + 1) i = g i :: s ∧ selF (m ^^^ q) g (n + 1) i = r := by
  obtain ⟨q, a, b, c⟩ := sel_ps n (i + 1) h
  have hb : ∀ j, (q ||| 2 ^ i).testBit j = (q.testBit j || decide (i = j)) := fun j => by rw [Nat.testBit_or, Nat.testBit_two_pow]
  refine ⟨q ||| 2 ^ i, fun j d => ?_, by rw [hb, decide_eq_true rfl, Bool.or_true], ?_, ?_⟩
  · rw [hb] at d
    by_cases f : i = j
    · rw [← f]
      exact ⟨e, by omega⟩
    · rw [decide_eq_false f, Bool.or_false] at d
      have := a j d
      exact ⟨this.1, by omega⟩
  · rw [selF, if_pos (by rw [hb, decide_eq_true rfl, Bool.or_true]), ← b]
    congr 1
    refine sel_cong n (i + 1) (fun j d f => ?_)
    rw [hb, decide_eq_false (by omega), Bool.or_false]
  · rw [selF, if_neg (by rw [Nat.testBit_xor, hb, e, decide_eq_true rfl, Bool.or_true]; decide), ← c]
    refine sel_cong n (i + 1) (fun j d f => ?_)
    rw [Nat.testBit_xor, Nat.testBit_xor, hb, decide_eq_false (by omega), Bool.or_false]
theorem Part.low {b : Nat} (hm : m < 2 ^ n) (hb : m.testBit b = true) (hl : ∀ j, j < b → m.testBit j = false) (h : Part T g n m no (fun q => (q &&& m = q ∧ 0 < q) ∧ q.testBit b = true) v) : Lst T (selF m g n 0) no v := by
  have hbn : b < n := by
    by_cases e : b < n
    · exact e
    · rw [tb_low hm (by omega)] at hb
      exact absurd hb (by decide)
  have h0 : m ≠ 0 := fun z => by
    rw [z, Nat.zero_testBit] at hb
    exact absurd hb (by decide)
  obtain ⟨r0, er⟩ : ∃ r0, n = b + (r0 + 1) := ⟨n - b - 1, by omega⟩
  have hsk : ∀ x : Nat, (∀ j, j < b → x.testBit j = false) → selF x g n 0 = selF x g (r0 + 1) b := fun x hx => by
    rw [er, sel_skip (m := x) b 0 (fun j _ q => hx j (by omega)), Nat.zero_add]
  have hto : ∀ k c, AchK T k (selF m g n 0) c → ∃ q, ((q &&& m = q ∧ 0 < q) ∧ q.testBit b = true) ∧ Way T g n m q c := fun k c hc => by
    rw [hsk m hl, selF, if_pos hb] at hc
    obtain ⟨p, r, t, d, j, x, y, z, e⟩ := AchK.head hc
    obtain ⟨q, q1, q2, q3, q4⟩ := sel_ph hb x
    have hqm := sub_of (fun i hi => (q1 i hi).1)
    have hql : ∀ j, j < b → q.testBit j = false := fun j hj => Bool.eq_false_iff.mpr (fun z => by have := (q1 j z).2; omega)
    refine ⟨q, ⟨⟨hqm, Nat.pos_of_ne_zero (fun z => by rw [z, Nat.zero_testBit] at q2; exact absurd q2 (by decide))⟩, q2⟩, j, t, d, ?_, ?_, e⟩
    · rw [hsk q hql, q3]
      exact y
    · rw [hsk (m ^^^ q) (fun j hj => by rw [Nat.testBit_xor, hl j hj, hql j hj]; rfl), q4]
      exact z
  have hfrom : ∀ q c, q &&& m = q → 0 < q → Way T g n m q c → ∃ k, AchK T k (selF m g n 0) c := fun q c a b hw => by
    obtain ⟨k, t, d, x, y, z⟩ := hw
    exact ⟨k + 1, selF q g n 0, selF (m ^^^ q) g n 0, t, d, sel_sp (fun i hi => sub_bits a hi) n 0, sel_ne (sub_lt hm a) (by omega), x, y, z⟩
  rcases h with ⟨a, b⟩ | ⟨a, ⟨q, b, c⟩, d⟩
  · refine Or.inl ⟨a, fun k c hc => ?_⟩
    obtain ⟨q, x, y⟩ := hto k c hc
    exact b q c x y
  · refine Or.inr ⟨a, hfrom q v b.1.1 b.1.2 c, fun k z hz => ?_⟩
    obtain ⟨r, x, y⟩ := hto k z hz
    exact d r z x y
end
theorem nI_int {z : Nat} (h : z < 2 ^ 31) : (nI z).toInt = (z : Int) := by
  show (BitVec.ofNat 32 z).toInt = _
  have e : (BitVec.ofNat 32 z).toNat = z := by rw [BitVec.toNat_ofNat, Nat.mod_eq_of_lt (by omega)]
  rw [BitVec.toInt_eq_toNat_of_lt (by rw [e]; omega), e]
theorem of_nat32 (z : Nat) : Int32.ofInt (z : Int) = nI z := rfl
theorem jand_nat {a b : Nat} (ha : a < 2 ^ 31) : jand a b = ((a &&& b : Nat) : Int) := by
  unfold jand
  rw [of_nat32, of_nat32, nx_and]
  exact nI_int (Nat.lt_of_le_of_lt Nat.and_le_left ha)
theorem nx_xor (a b : Nat) : nI a ^^^ nI b = nI (a ^^^ b) := by
  apply Int32.toBitVec_inj.1
  show BitVec.ofNat 32 a ^^^ BitVec.ofNat 32 b = BitVec.ofNat 32 (a ^^^ b)
  apply BitVec.eq_of_getLsbD_eq
  intro i hi
  simp [hi]
theorem jxor_nat {a b : Nat} (ha : a < 2 ^ 31) (hb : b < 2 ^ 31) : jxor a b = ((a ^^^ b : Nat) : Int) := by
  unfold jxor
  rw [of_nat32, of_nat32, nx_xor]
  exact nI_int (Nat.xor_lt_two_pow ha hb)
theorem bt_nI {z i : Nat} (hi : i < 32) : bt (nI z) i = z.testBit i := by
  show (BitVec.ofNat 32 z).getLsbD i = _
  rw [BitVec.getLsbD_ofNat]
  simp [hi]
theorem jandn_nat {a b : Nat} (ha : a < 2 ^ 31) (hb : b < 2 ^ 31) : jand a (jxor b (-1)) = ((a ^^^ (a &&& b) : Nat) : Int) := by
  unfold jand jxor
  rw [of_to32, of_nat32, of_nat32]
  have e : (nI a &&& (nI b ^^^ Int32.ofInt (-1))) = nI (a ^^^ (a &&& b)) := by
    refine b_ext (fun i hi => ?_)
    rw [b_and, b_xor, bt_nI hi, bt_nI hi, bt_nI hi, Nat.testBit_xor, Nat.testBit_and, show Int32.ofInt (-1) = -1 from rfl, b_m1 i hi]
    cases a.testBit i <;> cases b.testBit i <;> rfl
  rw [e]
  exact nI_int (Nat.xor_lt_two_pow ha (Nat.lt_of_le_of_lt Nat.and_le_left ha))
theorem jbit : ∀ a : Fin 256, ∀ i : Fin 8, jand (jshr (a.val : Int) (i.val : Int)) 1 = if a.val.testBit i.val then 1 else 0 := by decide +kernel
theorem jshl1 : ∀ i : Fin 16, jshl 1 (i.val : Int) = ((2 ^ i.val : Nat) : Int) := by decide +kernel
theorem jlow : ∀ a : Fin 256, 0 < a.val → ∃ b : Fin 8, jand (a.val : Int) (-(a.val : Int)) = ((2 ^ b.val : Nat) : Int) ∧ a.val.testBit b.val = true ∧ ∀ j : Fin 8, j.val < b.val → a.val.testBit j.val = false := by decide +kernel
