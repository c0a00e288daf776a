/-! PAIRS: lots *** the numbers -/
theorem wSum_f {d : Int → Int} (n : Nat) (w : Int) : wSum d (n + 1) w = d w + wSum d n (w + 1) := by
  have h := wSum_s (d := d) n w
  rw [wSum]
  omega
theorem wSum_rng {d : Int → Int} (hd : ∀ k, 0 ≤ d k ∧ d k ≤ 999) : ∀ (n : Nat) (w : Int), 0 ≤ wSum d n w ∧ wSum d n w ≤ 999 * n
  | 0, _ => by
    unfold wSum
    omega
  | n + 1, w => by
    have ih := wSum_rng hd n w
    have := hd (w + n)
    rw [wSum]
    omega
/-- the least greatest sum, over where the first lot ends -/
def inn (W prev : Int → Int) (f : Int) : Nat → Int
  | 0 => 1073741824
  | c + 1 => min (inn W prev f c) (max (wSum W (c + 1) f) (prev (f + ((c + 1 : Nat) : Int))))
def Dv (W : Int → Int) (g : Int) : Nat → Int → Int
  | 0, f => if f = g then 0 else 1073741824
  | l + 1, f => inn W (Dv W g l) f (g - f).toNat
theorem inn_le {W prev : Int → Int} {f m : Int} (hm : m < 1073741824) : ∀ n : Nat, inn W prev f n ≤ m ↔ ∃ c : Nat, 1 ≤ c ∧ c ≤ n ∧ wSum W c f ≤ m ∧ prev (f + c) ≤ m
  | 0 => by
    constructor
    · intro h
      unfold inn at h
      omega
    · intro ⟨c, h1, h2, _⟩
      omega
  | n + 1 => by
    have ih := inn_le (W := W) (prev := prev) (f := f) hm n
    rw [inn]
    constructor
    · intro h
      by_cases e : inn W prev f n ≤ m
      · obtain ⟨c, h1, h2, h3⟩ := ih.mp e
        exact ⟨c, h1, by omega, h3⟩
      · exact ⟨n + 1, by omega, by omega, by omega, by omega⟩
    · intro ⟨c, h1, h2, h3, h4⟩
      by_cases e : c ≤ n
      · have := ih.mpr ⟨c, h1, e, h3, h4⟩
        omega
      · have e2 : c = n + 1 := by omega
        subst e2
        omega
theorem inn_rng {W prev : Int → Int} (hW : ∀ k, 0 ≤ W k ∧ W k ≤ 999) (hp : ∀ k, 0 ≤ prev k ∧ prev k ≤ 1073741824) {f : Int} : ∀ n : Nat, n ≤ 10 → 0 ≤ inn W prev f n ∧ inn W prev f n ≤ 1073741824
  | 0, _ => by
    unfold inn
    omega
  | n + 1, hn => by
    have ih := inn_rng hW hp (f := f) n (by omega)
    have h1 := hp (f + ((n + 1 : Nat) : Int))
    have h2 := wSum_rng hW (n + 1) f
    rw [inn]
    omega
theorem Dv_rng {W : Int → Int} (hW : ∀ k, 0 ≤ W k ∧ W k ≤ 999) {g : Int} (hg : g ≤ 10) : ∀ (l : Nat) (f : Int), 0 ≤ f → 0 ≤ Dv W g l f ∧ Dv W g l f ≤ 1073741824
  | 0, f, _ => by
    unfold Dv
    split <;> omega
  | l + 1, f, hf => by
    have key : ∀ n : Nat, n ≤ 10 → 0 ≤ inn W (Dv W g l) f n ∧ inn W (Dv W g l) f n ≤ 1073741824 := by
      intro n
      induction n with
      | zero =>
        intro _
        unfold inn
        omega
      | succ n ih =>
        intro hn
        have i1 := ih (by omega)
        have h1 := Dv_rng hW hg l (f + ((n + 1 : Nat) : Int)) (by omega)
        have h2 := wSum_rng hW (n + 1) f
        rw [inn]
        omega
    rw [Dv]
    exact key _ (by omega)
theorem Dv_0 {W : Int → Int} {g f m : Int} (h0 : 0 ≤ m) (hm : m < 1073741824) : Dv W g 0 f ≤ m ↔ f = g := by
  unfold Dv
  by_cases e : f = g
  · rw [if_pos e]
    exact ⟨fun _ => e, fun _ => h0⟩
  · rw [if_neg e]
    exact ⟨fun h => by omega, fun h => absurd h e⟩
theorem Dv_s {W : Int → Int} {g f m : Int} {l : Nat} (hm : m < 1073741824) : Dv W g (l + 1) f ≤ m ↔ ∃ c : Nat, 1 ≤ c ∧ c ≤ (g - f).toNat ∧ wSum W c f ≤ m ∧ Dv W g l (f + c) ≤ m := by
  rw [Dv]
  exact inn_le hm _
theorem Dv_top {W : Int → Int} (hW : ∀ k, 0 ≤ W k ∧ W k ≤ 999) {g : Int} (hg : g ≤ 10) : ∀ (l : Nat) (f : Int), 0 ≤ f → f ≤ g → (l : Int) ≤ g - f → (l = 0 → f = g) → Dv W g l f ≤ wSum W (g - f).toNat f
  | 0, f, h0, h1, h2, h3 => by
    have e := h3 rfl
    have r := wSum_rng hW (g - f).toNat f
    rw [Dv_0 (by omega) (by omega)]
    exact e
  | 1, f, h0, h1, h2, h3 => by
    have r := wSum_rng hW (g - f).toNat f
    rw [Dv_s (by omega)]
    refine ⟨(g - f).toNat, by omega, by omega, by omega, ?_⟩
    rw [Dv_0 (by omega) (by omega)]
    omega
  | l + 2, f, h0, h1, h2, h3 => by
    have r := wSum_rng hW (g - f).toNat f
    have ih := Dv_top hW hg (l + 1) (f + 1) (by omega) (by omega) (by omega) (by omega)
    have hs := wSum_f (d := W) (g - (f + 1)).toNat f
    rw [show (g - (f + 1)).toNat + 1 = (g - f).toNat by omega] at hs
    have hw := hW f
    have r2 := wSum_rng hW (g - (f + 1)).toNat (f + 1)
    rw [Dv_s (by omega)]
    refine ⟨1, by omega, by omega, ?_, ?_⟩
    · have e1 : wSum W 1 f = W f := by
        rw [wSum_f]
        unfold wSum
        omega
      rw [e1]
      omega
    · show Dv W g (l + 1) (f + 1) ≤ _
      omega
/-- how many lots a greedy hand needs from k on, with c in the lot that is open -/
def Un (W : Int → Int) (m : Int) : Nat → Int → Int → Int
  | 0, _, _ => 1
  | r + 1, k, c => if m < c + W k then 1 + Un W m r (k + 1) (W k) else Un W m r (k + 1) (c + W k)
theorem Un_rng {W : Int → Int} {m : Int} : ∀ (r : Nat) (k c : Int), 1 ≤ Un W m r k c ∧ Un W m r k c ≤ 1 + r
  | 0, _, _ => by
    unfold Un
    omega
  | r + 1, k, c => by
    have a := Un_rng (W := W) (m := m) r (k + 1) (W k)
    have b := Un_rng (W := W) (m := m) r (k + 1) (c + W k)
    unfold Un
    split <;> omega
theorem Un_mono {W : Int → Int} {m : Int} (hW : ∀ k, 0 ≤ W k ∧ W k ≤ 999) : ∀ (r : Nat) (k : Int), (∀ j : Nat, j < r → W (k + j) ≤ m) → (∀ c c' : Int, 0 ≤ c → 0 ≤ c' → c ≤ m → c' ≤ m → Un W m r k c ≤ Un W m r k c' + 1) ∧ (∀ c c' : Int, 0 ≤ c → c ≤ c' → c' ≤ m → Un W m r k c ≤ Un W m r k c')
  | 0, _, _ => by
    unfold Un
    exact ⟨fun _ _ _ _ _ _ => by omega, fun _ _ _ _ _ => by omega⟩
  | r + 1, k, hA => by
    have ih := Un_mono hW r (k + 1) (fun j hj => by have := hA (j + 1) (by omega); rw [show k + ((j + 1 : Nat) : Int) = k + 1 + (j : Int) by omega] at this; exact this)
    have h0 := hA 0 (by omega)
    rw [show k + ((0 : Nat) : Int) = k by omega] at h0
    have hw := hW k
    refine ⟨fun c c' a1 a2 a3 a4 => ?_, fun c c' a1 a2 a3 => ?_⟩
    · unfold Un
      by_cases e : m < c + W k
      · rw [if_pos e]
        by_cases e2 : m < c' + W k
        · rw [if_pos e2]
          omega
        · rw [if_neg e2]
          have := ih.2 (W k) (c' + W k) (by omega) (by omega) (by omega)
          omega
      · rw [if_neg e]
        by_cases e2 : m < c' + W k
        · rw [if_pos e2]
          have := ih.1 (c + W k) (W k) (by omega) (by omega) (by omega) (by omega)
          omega
        · rw [if_neg e2]
          exact ih.1 (c + W k) (c' + W k) (by omega) (by omega) (by omega) (by omega)
    · unfold Un
      by_cases e : m < c + W k
      · rw [if_pos e, if_pos (by omega)]
        omega
      · rw [if_neg e]
        by_cases e2 : m < c' + W k
        · rw [if_pos e2]
          have := ih.1 (c + W k) (W k) (by omega) (by omega) (by omega) (by omega)
          omega
        · rw [if_neg e2]
          exact ih.2 (c + W k) (c' + W k) (by omega) (by omega) (by omega)
/-- the open lot may end somewhere, and the others do with what is left -/
def Eo (W : Int → Int) (g m : Int) (l : Nat) (k c : Int) : Prop := ∃ n : Nat, (n : Int) ≤ g - k ∧ c + wSum W n k ≤ m ∧ Dv W g l (k + n) ≤ m
theorem Eo_iff {W : Int → Int} {g m : Int} (hW : ∀ k, 0 ≤ W k ∧ W k ≤ 999) (h0 : 0 ≤ m) (hm : m < 1073741824) : ∀ (r : Nat) (k c : Int) (l : Nat), (r : Int) = g - k → 0 ≤ c → c ≤ m → (Eo W g m l k c ↔ (∀ j : Nat, j < r → W (k + j) ≤ m) ∧ Un W m r k c ≤ l + 1 ∧ (l : Int) ≤ r)
  | 0, k, c, l, hr, hc, hcm => by
    constructor
    · intro ⟨n, h1, h2, h3⟩
      have e : n = 0 := by omega
      subst e
      refine ⟨fun j hj => by omega, by unfold Un; omega, ?_⟩
      rcases l with _ | l
      · omega
      · rw [Dv_s hm] at h3
        obtain ⟨c', a1, a2, -⟩ := h3
        omega
    · intro ⟨_, _, h3⟩
      have e : l = 0 := by omega
      subst e
      refine ⟨0, by omega, by unfold wSum; omega, ?_⟩
      rw [Dv_0 h0 hm]
      omega
  | r + 1, k, c, l, hr, hc, hcm => by
    have hw := hW k
    have split1 : Eo W g m l k c ↔ Dv W g l k ≤ m ∨ (c + W k ≤ m ∧ Eo W g m l (k + 1) (c + W k)) := by
      constructor
      · intro ⟨n, h1, h2, h3⟩
        rcases n with _ | n
        · left
          rw [show k + ((0 : Nat) : Int) = k by omega] at h3
          exact h3
        · right
          rw [wSum_f] at h2
          have := wSum_rng hW n (k + 1)
          exact ⟨by omega, n, by omega, by omega, by rw [show k + 1 + (n : Int) = k + ((n + 1 : Nat) : Int) by omega]; exact h3⟩
      · intro h
        rcases h with h | ⟨h1, n, h2, h3, h4⟩
        · exact ⟨0, by omega, by unfold wSum; omega, by rw [show k + ((0 : Nat) : Int) = k by omega]; exact h⟩
        · exact ⟨n + 1, by omega, by rw [wSum_f]; omega, by rw [show k + ((n + 1 : Nat) : Int) = k + 1 + (n : Int) by omega]; exact h4⟩
    have all1 : (∀ j : Nat, j < r + 1 → W (k + j) ≤ m) ↔ W k ≤ m ∧ ∀ j : Nat, j < r → W (k + 1 + j) ≤ m := by
      constructor
      · intro h
        refine ⟨by have := h 0 (by omega); rw [show k + ((0 : Nat) : Int) = k by omega] at this; exact this, fun j hj => ?_⟩
        have := h (j + 1) (by omega)
        rw [show k + ((j + 1 : Nat) : Int) = k + 1 + (j : Int) by omega] at this
        exact this
      · intro ⟨h1, h2⟩ j hj
        rcases j with _ | j
        · rw [show k + ((0 : Nat) : Int) = k by omega]
          exact h1
        · rw [show k + ((j + 1 : Nat) : Int) = k + 1 + (j : Int) by omega]
          exact h2 j (by omega)
    have first1 : Dv W g l k ≤ m ↔ 1 ≤ l ∧ W k ≤ m ∧ Eo W g m (l - 1) (k + 1) (W k) := by
      rcases l with _ | l
      · rw [Dv_0 h0 hm]
        constructor
        · intro h
          omega
        · intro h
          omega
      · rw [Dv_s hm]
        constructor
        · intro ⟨n, a1, a2, a3, a4⟩
          obtain ⟨n, rfl⟩ : ∃ q, n = q + 1 := ⟨n - 1, by omega⟩
          rw [wSum_f] at a3
          have := wSum_rng hW n (k + 1)
          exact ⟨by omega, by omega, n, by omega, by omega, by rw [show k + 1 + (n : Int) = k + ((n + 1 : Nat) : Int) by omega]; exact a4⟩
        · intro ⟨_, _, n, b2, b3, b4⟩
          exact ⟨n + 1, by omega, by omega, by rw [wSum_f]; omega, by rw [show k + ((n + 1 : Nat) : Int) = k + 1 + (n : Int) by omega]; exact b4⟩
    rw [split1, first1, all1]
    have rng := Un_rng (W := W) (m := m) r (k + 1) (W k)
    by_cases hk : W k ≤ m
    · have ih1 := Eo_iff (g := g) hW h0 hm r (k + 1) (W k) (l - 1) (by omega) hw.1 hk
      rw [ih1]
      by_cases e : m < c + W k
      · have u : Un W m (r + 1) k c = 1 + Un W m r (k + 1) (W k) := by rw [Un, if_pos e]
        rw [u]
        constructor
        · intro h
          rcases h with ⟨a1, a2, a3, a4, a5⟩ | ⟨a1, -⟩
          · exact ⟨⟨hk, a3⟩, by omega, by omega⟩
          · omega
        · intro ⟨⟨a1, a2⟩, a3, a4⟩
          exact Or.inl ⟨by omega, hk, a2, by omega, by omega⟩
      · have u : Un W m (r + 1) k c = Un W m r (k + 1) (c + W k) := by rw [Un, if_neg e]
        have ih2 := Eo_iff (g := g) hW h0 hm r (k + 1) (c + W k) l (by omega) (by omega) (by omega)
        rw [u, ih2]
        constructor
        · intro h
          rcases h with ⟨a1, a2, a3, a4, a5⟩ | ⟨a1, a2, a3, a4⟩
          · have mo := (Un_mono hW r (k + 1) a3).1 (c + W k) (W k) (by omega) hw.1 (by omega) hk
            exact ⟨⟨hk, a3⟩, by omega, by omega⟩
          · exact ⟨⟨hk, a2⟩, a3, by omega⟩
        · intro ⟨⟨a1, a2⟩, a3, a4⟩
          by_cases e2 : (l : Int) ≤ r
          · exact Or.inr ⟨by omega, a2, a3, e2⟩
          · exact Or.inl ⟨by omega, hk, a2, by omega, by omega⟩
    · constructor
      · intro h
        rcases h with ⟨a1, a2, -⟩ | ⟨a1, -⟩
        · exact absurd a2 hk
        · omega
      · intro ⟨⟨a1, _⟩, _⟩
        exact absurd a1 hk
/-- the reference's walk over the lots -/
def ldU (W : Int → Int) (m : Int) : Nat → Int → Int → Int → Int
  | 0, _, _, u => u
  | r + 1, k, s, u => if m < W k then -1 else if m < s + W k then ldU W m r (k + 1) (W k) (u + 1) else ldU W m r (k + 1) (s + W k) u
theorem ldU_eq {W : Int → Int} {m : Int} : ∀ (r : Nat) (k s u : Int), ((∀ j : Nat, j < r → W (k + j) ≤ m) → ldU W m r k s u = u - 1 + Un W m r k s) ∧ (¬ (∀ j : Nat, j < r → W (k + j) ≤ m) → ldU W m r k s u = -1)
  | 0, k, s, u => by
    unfold ldU Un
    exact ⟨fun _ => by omega, fun h => absurd (fun j hj => absurd hj (Nat.not_lt_zero j)) h⟩
  | r + 1, k, s, u => by
    have all1 : (∀ j : Nat, j < r + 1 → W (k + j) ≤ m) ↔ W k ≤ m ∧ ∀ j : Nat, j < r → W (k + 1 + j) ≤ m := by
      constructor
      · intro h
        refine ⟨by have := h 0 (by omega); rw [show k + ((0 : Nat) : Int) = k by omega] at this; exact this, fun j hj => ?_⟩
        have := h (j + 1) (by omega)
        rw [show k + ((j + 1 : Nat) : Int) = k + 1 + (j : Int) by omega] at this
        exact this
      · intro ⟨h1, h2⟩ j hj
        rcases j with _ | j
        · rw [show k + ((0 : Nat) : Int) = k by omega]
          exact h1
        · rw [show k + ((j + 1 : Nat) : Int) = k + 1 + (j : Int) by omega]
          exact h2 j (by omega)
    rw [all1]
    have i1 := ldU_eq (W := W) (m := m) r (k + 1) (W k) (u + 1)
    have i2 := ldU_eq (W := W) (m := m) r (k + 1) (s + W k) u
    unfold ldU Un
    by_cases e : m < W k
    · rw [if_pos e]
      exact ⟨fun h => absurd h.1 (by omega), fun _ => rfl⟩
    · rw [if_neg e]
      by_cases e2 : m < s + W k
      · rw [if_pos e2, if_pos e2]
        exact ⟨fun h => by rw [i1.1 h.2]; omega, fun h => i1.2 (fun q => h ⟨by omega, q⟩)⟩
      · rw [if_neg e2, if_neg e2]
        exact ⟨fun h => i2.1 h.2, fun h => i2.2 (fun q => h ⟨by omega, q⟩)⟩
theorem ldU_rng {W : Int → Int} {m : Int} (r : Nat) (k s u : Int) (hu : 1 ≤ u) : -1 ≤ ldU W m r k s u ∧ ldU W m r k s u ≤ u + r := by
  have h := ldU_eq (W := W) (m := m) r k s u
  have h2 := Un_rng (W := W) (m := m) r k s
  by_cases e : ∀ j : Nat, j < r → W (k + j) ≤ m
  · rw [h.1 e]
    omega
  · rw [h.2 e]
    omega
/-- whether so many lots do: the reference's answer and the table -/
theorem lots_do {W : Int → Int} {g m f : Int} {l : Nat} (hW : ∀ k, 0 ≤ W k ∧ W k ≤ 999) (h0 : 0 ≤ m) (hm : m < 1073741824) (hf : f ≤ g) (hl : 1 ≤ l) : Dv W g l f ≤ m ↔ ldU W m (g - f).toNat f 0 1 ≠ -1 ∧ ldU W m (g - f).toNat f 0 1 ≤ l ∧ (l : Int) ≤ g - f := by
  obtain ⟨l, rfl⟩ : ∃ q, l = q + 1 := ⟨l - 1, by omega⟩
  by_cases e : f = g
  · rw [Dv_s hm]
    constructor
    · intro ⟨c, a1, a2, _⟩
      omega
    · intro ⟨_, _, a⟩
      omega
  · have hEo : Dv W g (l + 1) f ≤ m ↔ Eo W g m (l + 1) f m ∧ (W f ≤ m ∧ Eo W g m l (f + 1) (W f)) := by
      rw [Dv_s hm]
      have hw := hW f
      constructor
      · intro ⟨n, a1, a2, a3, a4⟩
        obtain ⟨n, rfl⟩ : ∃ q, n = q + 1 := ⟨n - 1, by omega⟩
        have hs : Dv W g (l + 1) f ≤ m := by
          rw [Dv_s hm]
          exact ⟨n + 1, a1, a2, a3, a4⟩
        rw [wSum_f] at a3
        have := wSum_rng hW n (f + 1)
        refine ⟨⟨0, by omega, by unfold wSum; omega, by rw [show f + ((0 : Nat) : Int) = f by omega]; exact hs⟩, by omega, n, by omega, by omega, by rw [show f + 1 + (n : Int) = f + ((n + 1 : Nat) : Int) by omega]; exact a4⟩
      · intro ⟨_, _, n, b2, b3, b4⟩
        exact ⟨n + 1, by omega, by omega, by rw [wSum_f]; omega, by rw [show f + ((n + 1 : Nat) : Int) = f + 1 + (n : Int) by omega]; exact b4⟩
    have hw := hW f
    obtain ⟨r, hr⟩ : ∃ r, (g - f).toNat = r + 1 := ⟨(g - f).toNat - 1, by omega⟩
    have hall : (∀ j : Nat, j < r + 1 → W (f + j) ≤ m) ↔ W f ≤ m ∧ ∀ j : Nat, j < r → W (f + 1 + j) ≤ m := by
      constructor
      · intro h
        refine ⟨by have := h 0 (by omega); rw [show f + ((0 : Nat) : Int) = f by omega] at this; exact this, fun j hj => ?_⟩
        have := h (j + 1) (by omega)
        rw [show f + ((j + 1 : Nat) : Int) = f + 1 + (j : Int) by omega] at this
        exact this
      · intro ⟨h1, h2⟩ j hj
        rcases j with _ | j
        · rw [show f + ((0 : Nat) : Int) = f by omega]
          exact h1
        · rw [show f + ((j + 1 : Nat) : Int) = f + 1 + (j : Int) by omega]
          exact h2 j (by omega)
    have hq := ldU_eq (W := W) (m := m) (r + 1) f 0 1
    have hu := Un_rng (W := W) (m := m) (r + 1) f 0
    rw [hr]
    by_cases e2 : W f ≤ m
    · have i1 := Eo_iff (g := g) hW h0 hm r (f + 1) (W f) l (by omega) hw.1 e2
      have hU : Un W m (r + 1) f 0 = Un W m r (f + 1) (W f) := by rw [Un, if_neg (by omega), Int.zero_add]
      constructor
      · intro h
        have h2 := (hEo.mp h).2.2
        rw [i1] at h2
        rw [hq.1 (hall.mpr ⟨e2, h2.1⟩)]
        omega
      · intro ⟨a1, a2, a3⟩
        by_cases e3 : ∀ j : Nat, j < r + 1 → W (f + j) ≤ m
        · rw [hq.1 e3] at a2
          have h2 : Eo W g m l (f + 1) (W f) := by
            rw [i1]
            exact ⟨(hall.mp e3).2, by omega, by omega⟩
          obtain ⟨n, b2, b3, b4⟩ := h2
          rw [Dv_s hm]
          exact ⟨n + 1, by omega, by omega, by rw [wSum_f]; omega, by rw [show f + ((n + 1 : Nat) : Int) = f + 1 + (n : Int) by omega]; exact b4⟩
        · exact absurd (hq.2 e3) a1
    · constructor
      · intro h
        exact absurd (hEo.mp h).2.1 e2
      · intro ⟨a1, _, _⟩
        exact absurd (hq.2 (fun q => e2 (hall.mp q).1)) a1
