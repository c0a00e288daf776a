/-! BEST *** the reference: what is placed *** no program *** -/
abbrev bSz (M : jM) (L : List Int) : Int → Int := fun j => sizeOfP (M 929) (L.getD j.toNat 0)
abbrev bW (M : jM) (row : Int) : Int → Int := fun j => M 948 (40 * row + j)
abbrev bSt (M : jM) : Int → Int := fun r => M 929 (1772 + r)
abbrev bRm (M : jM) : Int → Int := fun r => rLeft (M 929) r (M 929 709).toNat
def BF (M : jM) (L : List Int) (row : Int) (N : Nat) : Prop := CR M ∧ L.length = N ∧ (1 ≤ N ∧ N ≤ 7) ∧ (0 ≤ row ∧ row ≤ 3) ∧ (∀ i : Nat, i < N → 0 ≤ L.getD i 0 ∧ L.getD i 0 < M 929 709) ∧ ∀ j : Int, 0 ≤ j → j < N → 0 ≤ M 948 (40 * row + j) ∧ M 948 (40 * row + j) ≤ 99
def Plc (M Y : jM) (L : List Int) (row : Int) (m : Nat) (sum : Int) : Prop := LooseU M Y L ∧ (∀ i : Int, 0 ≤ i → i < m → (0 ≤ Y 934 i ∧ Y 934 i < M 929 1761) ∧ 0 ≤ Y 936 (Y 934 i)) ∧ (∀ r : Int, 0 ≤ r → r < M 929 1761 → Y 936 r = bRm M r - placed (bSz M L) (Y 934) r m) ∧ sum = costY (bW M row) (bSt M) (Y 934) m
theorem LooseU.oth {M Y : jM} {L : List Int} (h : LooseU M Y L) {k i v : Int} (hk : 934 ≤ k ∧ k ≤ 936) : LooseU M (jset Y k i v) L := ⟨h.1.set (by omega), fun i hi => by
  rw [row_k (by omega)]
  exact h.2 i hi⟩
theorem placed_rng {sz y : Int → Int} {r : Int} : ∀ m : Nat, (∀ j : Int, 0 ≤ j → j < m → 0 ≤ sz j ∧ sz j ≤ 9) → 0 ≤ placed sz y r m ∧ placed sz y r m ≤ 9 * m
  | 0, _ => ⟨Int.le_refl _, Int.le_refl _⟩
  | m + 1, h => by
    have ih := placed_rng (y := y) (r := r) m (fun j a b => h j a (by omega))
    have q := h m (by omega) (by omega)
    rw [placed_s]
    split <;> omega
theorem cost_rng {w st y : Int → Int} : ∀ m : Nat, (∀ j : Int, 0 ≤ j → j < m → (0 ≤ w j ∧ w j ≤ 99) ∧ 0 ≤ st (y j) ∧ st (y j) ≤ 99) → 0 ≤ costY w st y m ∧ costY w st y m ≤ 9801 * m
  | 0, _ => ⟨Int.le_refl _, Int.le_refl _⟩
  | m + 1, h => by
    have ih := cost_rng m (fun j a b => h j a (by omega))
    have q := h m (by omega) (by omega)
    have hm := mulB (A := 99) (B := 99) q.1 q.2
    show 0 ≤ costY w st y m + w m * st (y m) ∧ costY w st y m + w m * st (y m) ≤ 9801 * ((m + 1 : Nat) : Int)
    omega
section
variable {M Y Z : jM} {L : List Int} {row sum : Int} {N m : Nat}
theorem BF.sz (h : BF M L row N) {j : Int} (a : 0 ≤ j) (b : j < N) : 1 ≤ bSz M L j ∧ bSz M L j ≤ 9 := by
  have q := h.2.2.2.2.1 j.toNat (by omega)
  have hpr := h.1.plr q.1 q.2
  have hk := (h.1.kind hpr.1.1 hpr.1.2).2.1
  show 1 ≤ sizeOfP _ _ ∧ sizeOfP _ _ ≤ 9
  unfold sizeOfP
  exact hk
theorem BF.item (h : BF M L row N) (hU : LooseU M Y L) (hm : m < N) : (0 ≤ Y 933 m ∧ Y 933 m < M 929 709) ∧ M 929 (583 + M 929 (710 + Y 933 m)) = bSz M L m := by
  have e := hU.2 m (by rw [h.2.1]; exact hm)
  rw [e]
  exact ⟨h.2.2.2.2.1 m hm, rfl⟩
theorem Plc.sum_rng (hB : BF M L row N) (h : Plc M Y L row m sum) (hm : m ≤ N) : 0 ≤ sum ∧ sum ≤ 9801 * m := by
  rw [h.2.2.2]
  refine cost_rng m (fun j a b => ⟨hB.2.2.2.2.2 j a (by omega), ?_⟩)
  have q := (h.2.1 j a b).1
  exact (hB.1.rk q.1 q.2).2.2
theorem Plc.room (hB : BF M L row N) (h : Plc M Y L row m sum) (hm : m ≤ N) {r : Int} (a : 0 ≤ r) (b : r < M 929 1761) : -700 ≤ Y 936 r ∧ Y 936 r ≤ 99 := by
  rw [h.2.2.1 r a b]
  show -700 ≤ rLeft (M 929) r (M 929 709).toNat - placed (bSz M L) (Y 934) r m ∧ rLeft (M 929) r (M 929 709).toNat - placed (bSz M L) (Y 934) r m ≤ 99
  have hg := hB.1.rng
  have q := rLeft_rng hB.1.1 a b (M 929 709).toNat (by omega)
  have p := placed_rng (sz := bSz M L) (y := Y 934) (r := r) m (fun j u v => by
    have z := hB.sz u (show j < N by omega)
    omega)
  have hN := hB.2.2.1
  omega
theorem Plc.add (h : Plc M Y L row m sum) {r : Int} (hr : 0 ≤ r ∧ r < M 929 1761) (hZ : LooseU M Z L) (eA : Z 934 m = r) (eB : ∀ i : Int, 0 ≤ i → i < m → Z 934 i = Y 934 i) (eC : Z 936 r = Y 936 r - bSz M L m) (hc0 : bSz M L m ≤ Y 936 r) (eD : ∀ q : Int, q ≠ r → Z 936 q = Y 936 q) : Plc M Z L row (m + 1) (sum + bW M row m * bSt M r) := by
  obtain ⟨h1, h2, h3, h4⟩ := h
  refine ⟨hZ, fun i a b => ?_, fun q a b => ?_, ?_⟩
  · by_cases e : i = m
    · rw [e, eA, eC]
      exact ⟨hr, by omega⟩
    · have q := h2 i a (by omega)
      rw [eB i a (by omega)]
      refine ⟨q.1, ?_⟩
      by_cases e2 : Y 934 i = r
      · rw [e2, eC]
        omega
      · rw [eD _ e2]
        exact q.2
  · have t := h3 q a b
    rw [placed_s, placed_cong (z := Y 934) (fun k p q => eB k p q), eA]
    by_cases e : q = r
    · rw [e] at t ⊢
      rw [if_pos rfl, eC]
      omega
    · rw [if_neg (fun z => e z.symm), eD q e]
      omega
  · have e : costY (bW M row) (bSt M) (Z 934) m = costY (bW M row) (bSt M) (Y 934) m := tot_cong m (fun j p q => by simp only [eB j p q])
    show _ = costY (bW M row) (bSt M) (Z 934) m + bW M row m * bSt M (Z 934 m)
    rw [eA, e, h4]
theorem Plc.back (h : Plc M Y L row (m + 1) sum) (hZ : LooseU M Z L) (eB : ∀ i : Int, 0 ≤ i → i < m → Z 934 i = Y 934 i) (eC : Z 936 (Y 934 m) = Y 936 (Y 934 m) + bSz M L m) (hs : 0 ≤ bSz M L m) (eD : ∀ q : Int, q ≠ Y 934 m → Z 936 q = Y 936 q) : Plc M Z L row m (sum - bW M row m * bSt M (Y 934 m)) := by
  obtain ⟨h1, h2, h3, h4⟩ := h
  refine ⟨hZ, fun i a b => ?_, fun q a b => ?_, ?_⟩
  · have q := h2 i a (by omega)
    rw [eB i a b]
    refine ⟨q.1, ?_⟩
    by_cases e2 : Y 934 i = Y 934 m
    · have q2 := q.2
      rw [e2] at q2 ⊢
      rw [eC]
      omega
    · rw [eD _ e2]
      exact q.2
  · have t := h3 q a b
    rw [placed_s] at t
    rw [placed_cong (z := Y 934) (fun k p q => eB k p q)]
    by_cases e : q = Y 934 m
    · rw [e] at t ⊢
      rw [if_pos rfl] at t
      rw [eC]
      omega
    · rw [if_neg (fun z => e z.symm)] at t
      rw [eD q e]
      omega
  · have e : costY (bW M row) (bSt M) (Z 934) m = costY (bW M row) (bSt M) (Y 934) m := tot_cong m (fun j p q => by simp only [eB j p q])
    have h5 : sum = costY (bW M row) (bSt M) (Y 934) m + bW M row m * bSt M (Y 934 m) := h4
    rw [e]
    omega
theorem Plc.cong (h : Plc M Y L row m sum) (hZ : LooseU M Z L) (eB : ∀ i : Int, 0 ≤ i → i < m → Z 934 i = Y 934 i) (eD : Z 936 = Y 936) : Plc M Z L row m sum := by
  obtain ⟨h1, h2, h3, h4⟩ := h
  refine ⟨hZ, fun i a b => ?_, fun q a b => ?_, ?_⟩
  · rw [eB i a b, eD]
    exact h2 i a b
  · rw [eD, placed_cong (z := Y 934) (fun k p q => eB k p q)]
    exact h3 q a b
  · have e : costY (bW M row) (bSt M) (Z 934) m = costY (bW M row) (bSt M) (Y 934) m := tot_cong m (fun j p q => by simp only [eB j p q])
    rw [e]
    exact h4
end
