/-! BEST *** the search, level by level -/
abbrev bF (M : jM) (L : List Int) (N : Nat) : (Int → Int) → Prop := fun y => FeasS (bSz M L) (bRm M) y N (M 929 1761).toNat (2 ^ N - 1)
abbrev bC (M : jM) (row : Int) (N : Nat) : (Int → Int) → Int := fun y => costY (bW M row) (bSt M) y N
section
variable {M Y Z : jM} {L : List Int} {row sum b r0 r : Int} {N j : Nat} {s vec : Int → Int}
theorem bF.rng {y : Int → Int} (hB : BF M L row N) (h : bF M L N y) {k : Int} (a : 0 ≤ k) (c : k < N) : 0 ≤ y k ∧ y k < M 929 1761 := by
  have q := h.1 k.toNat (full_tb.mpr (by omega))
  rw [show ((k.toNat : Nat) : Int) = k by omega] at q
  have := hB.1.rng
  omega
theorem best_skips (hB : BF M L row N) (hj : j < N) (hP : Plc M Z L row j sum) (h : BestOk (bF M L N) (bC M row N) N j s b vec) (hs : ∀ i : Int, 0 ≤ i → i < j → s i = Z 934 i) (hsj : s j = r0 - 1) (hr0 : 0 ≤ r0) (hrR : r ≤ M 929 1761) (hno : ∀ v : Int, r0 ≤ v → v < r → Z 936 v < bSz M L j ∨ (b ≠ -1 ∧ b ≤ sum + bW M row j * bSt M v)) : ∀ (k : Nat), r0 + k ≤ r → BestOk (bF M L N) (bC M row N) N j (upd1 s j (r0 + k - 1)) b vec
  | 0, _ => by
    have e : upd1 s j (r0 + ((0 : Nat) : Int) - 1) = s := funext fun p => by
      by_cases q : p = j
      · rw [q, u1, hsj]
        omega
      · rw [u2 q]
    rw [e]
    exact h
  | k + 1, hk => by
    have ih := best_skips hB hj hP h hs hsj hr0 hrR hno k (by omega)
    refine ih.skip (by omega) (fun i a c => by rw [u2 (by omega), u2 (by omega)]) (by rw [u1, u1]; omega) (fun y hy h1 h2 => ?_)
    rw [u1] at h2
    have hyR := fun k => bF.rng hB hy (k := k)
    have hyZ : ∀ i : Int, 0 ≤ i → i < j → y i = Z 934 i := fun i a c => by rw [h1 i a c, u2 (by omega), hs i a c]
    have hyj : y j = r0 + k := by omega
    rcases hno (r0 + k) (by omega) (by omega) with q | q
    · have z := feas_room hy hj (fun k a c => by
        have := hB.sz a c
        omega)
      rw [placed_s, placed_cong (z := Z 934) hyZ, if_pos rfl, hyj] at z
      have t := hP.2.2.1 (r0 + k) (by omega) (by omega)
      omega
    · refine ⟨q.1, ?_⟩
      have t : costY (bW M row) (bSt M) y (j + 1) ≤ bC M row N y := tot_mono N (by omega) (fun i a c => by
        have w := hB.2.2.2.2.2 i a c
        have u := hyR i a c
        exact Int.mul_nonneg w.1 (hB.1.rk u.1 u.2).2.2.1)
      have e : costY (bW M row) (bSt M) y (j + 1) = costY (bW M row) (bSt M) (Z 934) j + bW M row j * bSt M (y j) := by
        have e2 : costY (bW M row) (bSt M) y j = costY (bW M row) (bSt M) (Z 934) j := tot_cong j (fun i a c => by simp only [hyZ i a c])
        rw [← e2]
        rfl
      rw [e, hyj, ← hP.2.2.2] at t
      omega
def SrchS (M : jM) (L : List Int) (row : Int) (N : Nat) (Y : jM) (j : Nat) (b sum : Int) : Prop := ((Y 934 j = -1 ∧ Plc M Y L row j sum) ∨ (0 ≤ Y 934 j ∧ Plc M Y L row (j + 1) sum)) ∧ BestOk (bF M L N) (bC M row N) N j (Y 934) b (Y 935) ∧ (-1 ≤ b ∧ b ≤ 100000)
def SrchX (M : jM) (L : List Int) (row : Int) (N : Nat) (Y Z : jM) (j : Nat) (b sum : Int) : Prop := Plc M Z L row j sum ∧ (∀ i : Int, 0 ≤ i → i < j → Z 934 i = Y 934 i) ∧ (-1 ≤ b ∧ b ≤ 100000) ∧ ∃ t : Int → Int, (∀ i : Int, 0 ≤ i → i < j → t i = Z 934 i) ∧ BestOk (bF M L N) (bC M row N) N j t b (Z 935) ∧ ∀ y, bF M L N y → y j ≤ t j
theorem bef_cong {F : (Int → Int) → Prop} {j : Int} {s t : Int → Int} (h0 : 0 ≤ j) (h : ∀ i : Int, 0 ≤ i → i ≤ j → s i = t i) (y : Int → Int) (_ : F y) : Bef j s y ↔ Bef j t y := by
  unfold Bef
  refine or_congr ⟨fun ⟨i, a, b, c⟩ => ⟨i, a, fun k p q => by rw [b k p q, h k p (by omega)], by rw [← h i a.1 (by omega)]; exact c⟩, fun ⟨i, a, b, c⟩ => ⟨i, a, fun k p q => by rw [b k p q, h k p (by omega)], by rw [h i a.1 (by omega)]; exact c⟩⟩ ⟨fun ⟨a, b⟩ => ⟨fun k p q => by rw [a k p q, h k p (by omega)], by rw [← h j h0 (by omega)]; exact b⟩, fun ⟨a, b⟩ => ⟨fun k p q => by rw [a k p q, h k p (by omega)], by rw [h j h0 (by omega)]; exact b⟩⟩
/-- one item back, its search done -/
theorem SrchX.up (hB : BF M L row N) (h : SrchX M L row N Y Z (j + 1) b sum) (hj : j + 1 < N) (hr : 0 ≤ Y 934 j) : SrchS M L row N Z j b sum := by
  obtain ⟨h1, h2, h3, t, h4, h5, h6⟩ := h
  refine ⟨Or.inr ⟨by rw [h2 j (by omega) (by omega)]; exact hr, h1⟩, ?_, h3⟩
  have q := h5.up (by omega) h6
  rw [show (((j + 1 : Nat) : Int) - 1) = j by omega] at q
  exact q.cong (bef_cong (by omega) (fun i a c => h4 i a (by omega)))
/-- all are placed -/
theorem best_leaf (hB : BF M L row N) (hj : j + 1 = N) (hP : Plc M Z L row (j + 1) sum) (h : BestOk (bF M L N) (bC M row N) N j s b vec) (h1 : ∀ i : Int, 0 ≤ i → i < j → s i = Z 934 i) (h2 : Z 934 j = s j + 1) (hc : b = -1 ∨ sum < b) (hv : ∀ i : Int, 0 ≤ i → i < N → Z 935 i = Z 934 i) : SrchS M L row N Z j sum sum := by
  have hN := hB.2.2.1
  have hsr := hP.sum_rng hB (by omega)
  have hP2 := hP
  rw [hj] at hP2
  have hF : bF M L N (Z 935) := by
    refine feas_of (fun k a c => ?_) (fun k a c => ?_)
    · rw [hv k a c]
      have := (hP2.2.1 k a c).1
      omega
    · have q := hP2.2.1 k a c
      rw [hv k a c, placed_cong (z := Z 934) hv]
      have t := hP2.2.2.1 _ q.1.1 q.1.2
      omega
  have hcost : bC M row N (Z 935) = sum := by
    rw [hP2.2.2.2]
    exact tot_cong N (fun i a c => by simp only [hv i a c])
  have q := h.leaf (t := Z 935) (by omega) (fun i a c => by rw [hv i a (by omega), h1 i a c]) (by rw [hv j (by omega) (by omega), h2]) hF (by rw [hcost]; exact hc) (by rw [hcost]; omega) (fun y z e => tot_cong N (fun i a c => by simp only [e i a c]))
  rw [hcost] at q
  exact ⟨Or.inr ⟨(hP.2.1 j (by omega) (by omega)).1.1, hP⟩, q.cong (bef_cong (by omega) (fun i a c => hv i a (by omega))), by omega⟩
end
theorem lm_lev {X : jX} {M : jM} {Q : Int → jM → Prop} {L : List Int} {row nn : Int} {N : Nat} (hB : BF M L row N) (hnn : nn = N) : ∀ (m j : Nat), j + m = N → 1 ≤ m → ∀ (k : Nat) (Y : jM) (b sum at5 : Int), at5 = j → M 929 1761 - Y 934 j ≤ k → SrchS M L row N Y j b sum → (∀ (Z : jM) (b2 s2 a : Int), a = (j : Int) - 1 → SrchX M L row N Y Z j b2 s2 → jE X yX12_findsRacks cX12_findsRacks 9 (some .int) 3 Q Z 46 [(0, jR 928), (1, jI row), (2, jI nn), (3, jI b2), (4, jI s2), (5, jI a)] []) → jE X yX12_findsRacks cX12_findsRacks 9 (some .int) 3 Q Y 46 [(0, jR 928), (1, jI row), (2, jI nn), (3, jI b), (4, jI sum), (5, jI at5)] [] := by
  intro m
  induction m with
  | zero => exact fun j _ h => absurd h (by decide)
  | succ m ihm =>
    intro j hjm _ k
    have hj : j < N := by omega
    have hN := hB.2.2.1
    have hrow := hB.2.2.2.1
    have hg := hB.1.rng
    induction k with
    | zero =>
      intro Y b sum at5 hat hk hS hc
      exfalso
      rcases hS.1 with q | q
      · omega
      · have z := q.2.2.1 j (by omega) (by omega)
        omega
    | succ k ihk =>
      intro Y b sum at5 hat hk hS hc
      obtain ⟨hP, hBest, hb⟩ := hS
      have hs0 : -1 ≤ Y 934 j := by omega
      refine lm_back hB hnn hj hat hb hP (fun Z s2 hPl h34 h35 => ?_)
      have hsr := hPl.sum_rng hB (by omega)
      have hSZ := hPl.1.1
      have e9 := hSZ.row
      have hit := hB.item hPl.1 hj
      have hw := hB.2.2.2.2.2 j (by omega) (by omega)
      have hend : ∀ (k2 : Nat) (rr : Int), Y 934 j + 1 = rr → rr + k2 = Z 929 1761 → jE X yX12_findsRacks cX12_findsRacks 9 (some .int) 3 Q Z 124 [(0, jR 928), (1, jI row), (2, jI nn), (3, jI b), (4, jI s2), (5, jI at5), (6, jI rr), (7, jI (M 948 (40 * row + j)))] [] := fun k2 rr hrr hk2 => by
        refine lm_try hB.1 hSZ (by omega) hw hb (by omega) (by rw [hat, e9]; exact hit.1) (fun r hr0 hr1 hskip hfit => ?_) k2 rr (by omega) (Int.le_refl _) hk2 (fun v a c => by omega)
        rw [hat, e9, hit.2] at hskip hfit
        rw [e9] at hr1
        have hbest : BestOk (bF M L N) (bC M row N) N j (upd1 (Y 934) j (r - 1)) b (Y 935) := by
          have q := best_skips (r0 := rr) (r := r) hB hj hPl hBest (fun i a c => by rw [h34]) (by omega) (by omega) hr1 hskip (r - rr).toNat (by omega)
          rw [show rr + (((r - rr).toNat : Nat) : Int) - 1 = r - 1 by omega] at q
          exact q
        refine lm_put hB hnn hj hat rfl hb hPl (by omega) (fun h => (hfit h).1) (fun h a ha => ?_) (fun h hj1 s3 hs3 W hPW hWj hWn hWs h5 a ha => ?_) (fun h hj1 s3 hs3 W hPW hWj hWs h5 => ?_)
        · refine hc Z b s2 a (by omega) ⟨hPl, fun i _ _ => by rw [h34], hb, upd1 (Y 934) j (r - 1), fun i p q => by rw [u2 (by omega), h34], by rw [h35]; exact hbest, fun y hy => ?_⟩
          rw [u1]
          have := bF.rng hB hy (k := j) (by omega) (by omega)
          omega
        · have hd := hbest.down (t := W 934) (by omega) (fun i p q => by rw [u2 (by omega), hWs i p q, h34]) (by rw [hWj, u1]; omega) hWn (fun y hy => (bF.rng hB hy (k := (j : Int) + 1) (by omega) (by omega)).1)
          refine ihm (j + 1) (by omega) (by omega) (M 929 1761 + 1).toNat W b s3 a (by omega) ?_ ⟨Or.inl ⟨hWn, hPW⟩, by rw [h5, h35]; exact hd, hb⟩ (fun W2 b3 s4 a2 ha2 hX => ?_)
          · show M 929 1761 - W 934 ((j : Int) + 1) ≤ _
            rw [hWn]
            omega
          · have hup := hX.up hB (by omega) (by omega)
            have e1 : W2 934 j = r := by rw [hX.2.1 j (by omega) (by omega), hWj]
            refine ihk W2 b3 s4 a2 (by omega) (by omega) hup (fun Z3 b4 s5 a3 ha3 hX3 => hc Z3 b4 s5 a3 ha3 ⟨hX3.1, fun i p q => ?_, hX3.2.2⟩)
            rw [hX3.2.1 i p q, hX.2.1 i p (by omega), hWs i p q, h34]
        · have hS2 := best_leaf hB hj1 hPW hbest (fun i p q => by rw [u2 (by omega), hWs i p q, h34]) (by rw [hWj, u1]; omega) (by rw [hs3]; exact (hfit h).2) h5
          refine ihk W s3 s3 at5 hat (by omega) hS2 (fun Z3 b4 s5 a3 ha3 hX3 => hc Z3 b4 s5 a3 ha3 ⟨hX3.1, fun i p q => ?_, hX3.2.2⟩)
          rw [hX3.2.1 i p q, hWs i p q, h34]
      refine hend (Z 929 1761 - (Y 934 j + 1)).toNat _ rfl ?_
      have e61 : Z 929 1761 = M 929 1761 := by rw [e9]
      have : Y 934 j + 1 ≤ M 929 1761 := by
        rcases hP with q | q
        · omega
        · have z := q.2.2.1 j (by omega) (by omega)
          omega
      omega
