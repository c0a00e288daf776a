/-! MATCHED *** counting, greedy hands, augmenting *** no program *** -/
noncomputable def cP (P : Int → Prop) : Nat → Nat
  | 0 => 0
  | n + 1 => cP P n + @ite _ (P n) (Classical.propDecidable _) 1 0
theorem cP_yes {P : Int → Prop} {n : Nat} (h : P n) : cP P (n + 1) = cP P n + 1 := by
  rw [cP, if_pos h]
theorem cP_no {P : Int → Prop} {n : Nat} (h : ¬ P n) : cP P (n + 1) = cP P n := by
  rw [cP, if_neg h]
  rfl
theorem cP_cong {P R : Int → Prop} : ∀ n : Nat, (∀ i : Int, 0 ≤ i → i < n → (P i ↔ R i)) → cP P n = cP R n
  | 0, _ => rfl
  | n + 1, h => by
    have ih := cP_cong n (fun i a b => h i a (by omega))
    have q := h n (by omega) (by omega)
    by_cases e : P n
    · rw [cP_yes e, cP_yes (q.mp e), ih]
    · rw [cP_no e, cP_no (fun z => e (q.mpr z)), ih]
theorem cP_le {P R : Int → Prop} : ∀ n : Nat, (∀ i : Int, 0 ≤ i → i < n → P i → R i) → cP P n ≤ cP R n
  | 0, _ => Nat.le_refl 0
  | n + 1, h => by
    have ih := cP_le n (fun i a b => h i a (by omega))
    have q := h n (by omega) (by omega)
    by_cases e : P n
    · rw [cP_yes e, cP_yes (q e)]
      omega
    · rw [cP_no e]
      by_cases e2 : R n
      · rw [cP_yes e2]
        omega
      · rw [cP_no e2]
        exact ih
theorem cP_top (P : Int → Prop) : ∀ n : Nat, cP P n ≤ n
  | 0 => Nat.le_refl 0
  | n + 1 => by
    have ih := cP_top P n
    by_cases e : P n
    · rw [cP_yes e]
      omega
    · rw [cP_no e]
      omega
/-- one fewer without x -/
theorem cP_but {P : Int → Prop} {x : Int} : ∀ n : Nat, 0 ≤ x → x < n → P x → cP P n = cP (fun i => P i ∧ i ≠ x) n + 1
  | 0, h0, h1, _ => by omega
  | n + 1, h0, h1, h => by
    by_cases e : x = n
    · subst e
      have ih : cP P n = cP (fun i => P i ∧ i ≠ (n : Int)) n := cP_cong n (fun i a b => ⟨fun q => ⟨q, by omega⟩, fun q => q.1⟩)
      rw [cP_yes h, cP_no (fun q => q.2 rfl), ih]
    · have ih := cP_but (P := P) n h0 (by omega) h
      by_cases e2 : P n
      · rw [cP_yes e2, cP_yes (P := fun i => P i ∧ i ≠ x) ⟨e2, fun q => e q.symm⟩, ih]
      · rw [cP_no e2, cP_no (P := fun i => P i ∧ i ≠ x) (fun q => e2 q.1), ih]
/-- what is sent apart -/
theorem cP_inj {f : Int → Int} : ∀ (n : Nat) {N : Nat} {P R : Int → Prop}, (∀ i : Int, 0 ≤ i → i < n → P i → (0 ≤ f i ∧ f i < N) ∧ R (f i)) → (∀ i j : Int, 0 ≤ i → i < j → j < n → P i → P j → f i ≠ f j) → cP P n ≤ cP R N
  | 0, _, _, _, _, _ => Nat.zero_le _
  | n + 1, N, P, R, h1, h2 => by
    by_cases e : P n
    · have q := h1 n (by omega) (by omega) e
      have ih := cP_inj n (N := N) (P := P) (R := fun i => R i ∧ i ≠ f n) (fun i a b c => ⟨(h1 i a (by omega) c).1, (h1 i a (by omega) c).2, h2 i n a b (by omega) c e⟩) (fun i j a b c d z => h2 i j a b (by omega) d z)
      have b := cP_but (P := R) (x := f n) N q.1.1 q.1.2 q.2
      rw [cP_yes e]
      omega
    · rw [cP_no e]
      exact cP_inj n (fun i a b c => h1 i a (by omega) c) (fun i j a b c d z => h2 i j a b (by omega) d z)
/-- what covers -/
theorem cP_sur {f : Int → Int} : ∀ (n : Nat) {N : Nat} {P R : Int → Prop}, (∀ p : Int, 0 ≤ p → p < N → R p → ∃ u : Int, 0 ≤ u ∧ u < n ∧ P u ∧ f u = p) → cP R N ≤ cP P n
  | 0, N, P, R, h => by
    have e : cP R N = cP (fun _ => False) N := cP_cong N (fun i a b => ⟨fun q => by obtain ⟨u, x, y, -⟩ := h i a b q; omega, fun q => q.elim⟩)
    have e2 : ∀ m : Nat, cP (fun _ => False) m = 0 := by
      intro m
      induction m with
      | zero => rfl
      | succ m ih => rw [cP_no (fun q => q), ih]
    rw [e, e2]
    exact Nat.zero_le _
  | n + 1, N, P, R, h => by
    by_cases e : P n
    · have ih := cP_sur (f := f) n (N := N) (P := P) (R := fun i => R i ∧ i ≠ f n) (fun p a b c => by
        obtain ⟨u, u0, u1, u2, u3⟩ := h p a b c.1
        have : u ≠ n := fun q => c.2 (by rw [← u3, q])
        exact ⟨u, u0, by omega, u2, u3⟩)
      rw [cP_yes e]
      by_cases e2 : (0 ≤ f n ∧ f n < N) ∧ R (f n)
      · have b := cP_but (P := R) (x := f n) N e2.1.1 e2.1.2 e2.2
        omega
      · have b : cP R N = cP (fun i => R i ∧ i ≠ f n) N := cP_cong N (fun i x y => ⟨fun q => ⟨q, fun z => e2 (by rw [← z]; exact ⟨⟨x, y⟩, q⟩)⟩, fun q => q.1⟩)
        omega
    · rw [cP_no e]
      exact cP_sur n (fun p a b c => by
        obtain ⟨u, u0, u1, u2, u3⟩ := h p a b c
        have : u ≠ n := fun q => e (by rw [← q]; exact u2)
        exact ⟨u, u0, by omega, u2, u3⟩)
/-- the least by w of those that F says -/
theorem least_by {F : Int → Prop} {w : Int → Int} : ∀ n : Nat, (∃ s : Int, 0 ≤ s ∧ s < n ∧ F s) → ∃ s : Int, 0 ≤ s ∧ s < n ∧ F s ∧ ∀ u : Int, 0 ≤ u → u < n → F u → w s ≤ w u
  | 0, h => by
    obtain ⟨s, a, b, -⟩ := h
    omega
  | n + 1, h => by
    by_cases e : ∃ s : Int, 0 ≤ s ∧ s < n ∧ F s
    · obtain ⟨s, a, b, c, d⟩ := least_by (w := w) n e
      by_cases e2 : F n ∧ w n < w s
      · refine ⟨n, by omega, by omega, e2.1, fun u x y z => ?_⟩
        by_cases q : u = n
        · rw [q]
          exact Int.le_refl _
        · have := d u x (by omega) z
          omega
      · refine ⟨s, a, by omega, c, fun u x y z => ?_⟩
        by_cases q : u = n
        · rw [q] at z ⊢
          by_cases q2 : w n < w s
          · exact absurd ⟨z, q2⟩ e2
          · omega
        · exact d u x (by omega) z
    · obtain ⟨s, a, b, c⟩ := h
      have es : s = n := by
        by_cases q : s < n
        · exact absurd ⟨s, a, q, c⟩ e
        · omega
      rw [es] at c
      refine ⟨n, by omega, by omega, c, fun u x y z => ?_⟩
      by_cases q : u < n
      · exact absurd ⟨u, x, q, z⟩ e
      · rw [show u = n by omega]
        exact Int.le_refl _
/-- which thing may be which pledge: by kinds and weeks -/
def MbOk (mb : Int → Int → Prop) (kd wk mk md : Int → Int) (C : Int → Prop) (N : Nat) : Prop := (∀ t p, mb t p ↔ C p ∧ mk p = kd t ∧ wk t ≤ md p) ∧ ∀ p q : Int, 0 ≤ p → p ≤ q → q < N → md p ≤ md q
/-- each thing takes the least that is free -/
def GrOk (mb : Int → Int → Prop) (G : Int → Int) (N T : Nat) : Prop := ∀ t : Int, 0 ≤ t → t < T → (G t ≠ -1 → (0 ≤ G t ∧ G t < N) ∧ mb t (G t) ∧ (∀ s : Int, 0 ≤ s → s < t → G s ≠ G t) ∧ ∀ p : Int, 0 ≤ p → p < G t → mb t p → ∃ s : Int, 0 ≤ s ∧ s < t ∧ G s = p) ∧ (G t = -1 → ∀ p : Int, 0 ≤ p → p < N → mb t p → ∃ s : Int, 0 ≤ s ∧ s < t ∧ G s = p)
/-- of the things up to t that are matched, t among them, those of s's kind and of its week or later -/
def Later (kd wk G : Int → Int) (t s u : Int) : Prop := (u = t ∨ G u ≠ -1) ∧ kd u = kd s ∧ wk s ≤ wk u
theorem gr_room {mb : Int → Int → Prop} {kd wk mk md G : Int → Int} {C : Int → Prop} {N T : Nat} (hm : MbOk mb kd wk mk md C N) (hG : GrOk mb G N T) {t : Nat} (ht : t < T) (hx : G t ≠ -1) {s : Int} (hs : 0 ≤ s ∧ s ≤ t) : cP (Later kd wk G t s) (t + 1) ≤ cP (fun p => mb s p) N := by
  have ha : ∀ u : Int, 0 ≤ u → u < ((t + 1 : Nat) : Int) → Later kd wk G t s u → G u ≠ -1 := fun u a b c => by
    rcases c.1 with q | q
    · rw [q]
      exact hx
    · exact q
  refine cP_inj (f := G) (t + 1) (fun u a b c => ?_) (fun i j a b c d e => ?_)
  · have h := (hG u a (by omega)).1 (ha u a b c)
    refine ⟨h.1, ?_⟩
    have h2 := (hm.1 u (G u)).mp h.2.1
    exact (hm.1 s (G u)).mpr ⟨h2.1, by rw [h2.2.1]; exact c.2.1, by have := c.2.2; omega⟩
  · have h := (hG j (by omega) (by omega)).1 (ha j (by omega) c e)
    exact h.2.2.1 i a b
/-- without a free one, some thing has too many behind it -/
theorem gr_full {mb : Int → Int → Prop} {kd wk mk md G : Int → Int} {C : Int → Prop} {N T : Nat} (hm : MbOk mb kd wk mk md C N) (hG : GrOk mb G N T) {t : Nat} (ht : t < T) (hx : G t = -1) : ∃ s : Int, 0 ≤ s ∧ s ≤ t ∧ (s = t ∨ G s ≠ -1) ∧ cP (fun p => mb s p) N < cP (Later kd wk G t s) (t + 1) := by
  obtain ⟨s, s0, s1, ⟨sm, sk, sf⟩, sl⟩ := least_by (F := fun s => (s = t ∨ G s ≠ -1) ∧ kd s = kd t ∧ ∀ p : Int, 0 ≤ p → p < N → mb s p → ∃ u : Int, 0 ≤ u ∧ u < t ∧ G u = p) (w := wk) (t + 1) ⟨t, by omega, by omega, Or.inl rfl, rfl, fun p a b c => (hG t (by omega) (by omega)).2 hx p a b c⟩
  have slt := sl t (by omega) (by omega) ⟨Or.inl rfl, rfl, fun p a b c => (hG t (by omega) (by omega)).2 hx p a b c⟩
  refine ⟨s, s0, by omega, sm, ?_⟩
  have hself : Later kd wk G t s t := ⟨Or.inl rfl, sk.symm, slt⟩
  have hcov : cP (fun p => mb s p) N ≤ cP (Later kd wk G t s) t := by
    refine cP_sur (f := G) t (fun p a b c => ?_)
    obtain ⟨u, u0, u1, u2⟩ := sf p a b c
    have hu : G u ≠ -1 := by omega
    have hg := (hG u u0 (by omega)).1 hu
    have m1 := (hm.1 u (G u)).mp hg.2.1
    have m2 := (hm.1 s p).mp c
    rw [u2] at m1 hg
    refine ⟨u, u0, u1, ⟨Or.inr hu, by rw [← m1.2.1, m2.2.1], ?_⟩, u2⟩
    by_cases q : wk s ≤ wk u
    · exact q
    · exfalso
      have := sl u u0 (by omega) ⟨Or.inr hu, by rw [← m1.2.1, m2.2.1]; exact sk, fun r a2 b2 c2 => by
        by_cases e : r < p
        · obtain ⟨v, v0, v1, v2⟩ := hg.2.2.2 r a2 e c2
          exact ⟨v, v0, by omega, v2⟩
        · have m3 := (hm.1 u r).mp c2
          have hmd := hm.2 p r a (by omega) b2
          exact sf r a2 b2 ((hm.1 s r).mpr ⟨m3.1, by rw [m3.2.1, ← m1.2.1, m2.2.1], by omega⟩)⟩
      omega
  rw [cP_yes hself]
  omega
/-- a matching of the things up to t that the greedy hand matches *** those ahead of f stay *** -/
def VOk (mb : Int → Int → Prop) (G W : Int → Int) (N t f : Nat) : Prop := (∀ p : Int, 0 ≤ p → p < N → W p ≠ -1 → (0 ≤ W p ∧ W p < t) ∧ mb (W p) p) ∧ (∀ p q : Int, 0 ≤ p → p < N → 0 ≤ q → q < N → p ≠ q → W p = W q → W p = -1) ∧ (∀ u : Int, 0 ≤ u → u < t → ((∃ p : Int, 0 ≤ p ∧ p < N ∧ W p = u) ↔ G u ≠ -1)) ∧ ∀ u : Int, 0 ≤ u → u < f → G u ≠ -1 → W (G u) = u
/-- if t too is in a matching with them, the greedy hand matches it -/
theorem kuhn_yes {mb : Int → Int → Prop} {kd wk mk md G W : Int → Int} {C : Int → Prop} {N T : Nat} (hm : MbOk mb kd wk mk md C N) (hG : GrOk mb G N T) {t : Nat} (ht : t < T) (h1 : ∀ p : Int, 0 ≤ p → p < N → W p ≠ -1 → mb (W p) p) (h2 : ∀ u : Int, 0 ≤ u → u < t → G u ≠ -1 → ∃ p : Int, 0 ≤ p ∧ p < N ∧ W p = u) (h3 : ∃ p : Int, 0 ≤ p ∧ p < N ∧ W p = t) : G t ≠ -1 := by
  intro hx
  obtain ⟨s, s0, s1, s2, s3⟩ := gr_full hm hG ht hx
  have : cP (Later kd wk G t s) (t + 1) ≤ cP (fun p => mb s p) N := by
    refine cP_sur (f := W) N (fun u a b c => ?_)
    have hex : ∃ p : Int, 0 ≤ p ∧ p < N ∧ W p = u := by
      rcases c.1 with q | q
      · rw [q]
        exact h3
      · by_cases e : u = t
        · rw [e]
          exact h3
        · exact h2 u a (by omega) q
    obtain ⟨p, p0, p1, p2⟩ := hex
    have hb := h1 p p0 p1 (by omega)
    rw [p2] at hb
    have m1 := (hm.1 u p).mp hb
    exact ⟨p, p0, p1, (hm.1 s p).mpr ⟨m1.1, by rw [m1.2.1]; exact c.2.1, by have := c.2.2; omega⟩, p2⟩
  omega
/-- if the search for t has closed a set of pledges, the greedy hand doesn't match t -/
theorem kuhn_no {mb : Int → Int → Prop} {kd wk mk md G W : Int → Int} {C L : Int → Prop} {N T : Nat} (hm : MbOk mb kd wk mk md C N) (hG : GrOk mb G N T) {t f : Nat} (ht : t < T) (hf : f ≤ t) (hV : VOk mb G W N t f)
    (c1 : ∀ p : Int, 0 ≤ p → p < N → mb t p → (W p = -1 ∨ (f : Int) ≤ W p) → L p) (c2 : ∀ p : Int, 0 ≤ p → p < N → L p → (f : Int) ≤ W p ∧ ∀ q : Int, 0 ≤ q → q < N → mb (W p) q → (W q = -1 ∨ (f : Int) ≤ W q) → L q) : G t = -1 := by
  by_cases hx : G t = -1
  · exact hx
  · exfalso
    obtain ⟨v1, v2, v3, v4⟩ := hV
    -- the things in question
    have k1 : cP L N ≤ cP (fun u => ∃ p : Int, 0 ≤ p ∧ p < N ∧ L p ∧ W p = u) t := by
      refine cP_inj (f := W) N (fun p a b c => ?_) (fun p q a b c d e => ?_)
      · have h := c2 p a b c
        exact ⟨(v1 p a b (by omega)).1, p, a, b, c, rfl⟩
      · intro w
        have h := v2 p q a (by omega) (by omega) c (by omega) w
        have := (c2 p a (by omega) d).1
        omega
    have hin : ∀ u : Int, 0 ≤ u → u ≤ t → G u ≠ -1 → (f : Int) ≤ u → (∀ q : Int, 0 ≤ q → q < N → mb u q → (W q = -1 ∨ (f : Int) ≤ W q) → L q) → L (G u) := fun u a b c d e => by
      have hg := (hG u a (by omega)).1 c
      refine e (G u) hg.1.1 hg.1.2 hg.2.1 ?_
      by_cases q : W (G u) = -1
      · exact Or.inl q
      · by_cases q2 : (f : Int) ≤ W (G u)
        · exact Or.inr q2
        · exfalso
          have r1 := (v1 (G u) hg.1.1 hg.1.2 q).1
          have r2 := (v3 (W (G u)) r1.1 r1.2).mp ⟨G u, hg.1.1, hg.1.2, rfl⟩
          have r3 := v4 (W (G u)) r1.1 (by omega) r2
          have hg2 := (hG (W (G u)) r1.1 (by omega)).1 r2
          by_cases q3 : G (W (G u)) = G u
          · exact hg.2.2.1 (W (G u)) r1.1 (by omega) q3
          · have := v2 (G (W (G u))) (G u) hg2.1.1 hg2.1.2 hg.1.1 hg.1.2 q3 r3
            omega
    have k2 : cP (fun u => u = (t : Int) ∨ ∃ p : Int, 0 ≤ p ∧ p < N ∧ L p ∧ W p = u) (t + 1) ≤ cP L N := by
      have hgood : ∀ u : Int, 0 ≤ u → u < ((t + 1 : Nat) : Int) → (u = (t : Int) ∨ ∃ p : Int, 0 ≤ p ∧ p < N ∧ L p ∧ W p = u) → G u ≠ -1 ∧ L (G u) := fun u a b c => by
        rcases c with c | ⟨p, p0, p1, p2, p3⟩
        · rw [c]
          exact ⟨hx, hin t (by omega) (by omega) hx (by omega) c1⟩
        · have h := c2 p p0 p1 p2
          have hu : G u ≠ -1 := by
            have r1 := (v1 p p0 p1 (by omega)).1
            rw [p3] at r1
            exact (v3 u r1.1 r1.2).mp ⟨p, p0, p1, p3⟩
          rw [p3] at h
          exact ⟨hu, hin u a (by omega) hu h.1 h.2⟩
      refine cP_inj (f := G) (t + 1) (fun u a b c => ?_) (fun i j a b c d e => ?_)
      · have h := hgood u a b c
        exact ⟨((hG u a (by omega)).1 h.1).1, h.2⟩
      · have h := hgood j (by omega) c e
        exact ((hG j (by omega) (by omega)).1 h.1).2.2.1 i a b
    have k3 : cP (fun u => ∃ p : Int, 0 ≤ p ∧ p < N ∧ L p ∧ W p = u) t ≤ cP (fun u => u = (t : Int) ∨ ∃ p : Int, 0 ≤ p ∧ p < N ∧ L p ∧ W p = u) t := cP_le t (fun i _ _ q => Or.inr q)
    rw [cP_yes (Or.inl rfl)] at k2
    omega
