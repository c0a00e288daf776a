/-! THE LIVE SHOP: what its cells tell, one by one -/
def CR (M : jM) : Prop := RInv (M 929) ∧ CInv (cv M 1) (M 929)
theorem Inv.cr {M : jM} (h : Inv M) : CR M := ⟨h.2.1, h.2.2.1⟩
theorem CR.cnt {M : jM} (h : CR M) : M 1 6 = M 929 582 ∧ M 1 8 = M 929 643 ∧ M 1 10 = M 929 709 ∧ M 1 12 = M 929 1310 ∧ M 1 14 = M 929 1761 ∧ M 1 19 = M 929 3895 ∧ M 1 4 = M 929 708 ∧ M 1 17 = M 929 3608 ∧ M 1 2 = M 929 64 := h.2.1
theorem CR.rng {M : jM} (h : CR M) : (0 ≤ M 929 582 ∧ M 929 582 ≤ 12) ∧ (0 ≤ M 929 643 ∧ M 929 643 ≤ 16) ∧ (0 ≤ M 929 709 ∧ M 929 709 ≤ 60) ∧ (0 ≤ M 929 1310 ∧ M 929 1310 ≤ 150) ∧ (0 ≤ M 929 1761 ∧ M 929 1761 ≤ 10) ∧ (0 ≤ M 929 3895 ∧ M 929 3895 ≤ 12) ∧ (0 ≤ M 929 708 ∧ M 929 708 ≤ 300) ∧ (0 ≤ M 929 3608 ∧ M 929 3608 ≤ 3) ∧ (0 ≤ M 929 64 ∧ M 929 64 ≤ 1) ∧ (M 929 64 = 0 → M 929 32 = 0) := h.1.1
theorem cv1 {M : jM} {o k j : Int} : cv M 1 (o + k) j = M ((1 + o) + k) j := by
  unfold cv
  rw [Int.add_assoc]
theorem CR.kind {M : jM} (h : CR M) {k : Int} (h0 : 0 ≤ k) (h1 : k < M 929 582) : (M (56 + k) 0 = M 929 (583 + k) ∧ M (56 + k) 1 = M 929 (595 + k) ∧ M (56 + k) 2 = M 929 (607 + k) ∧ M (56 + k) 3 = M 929 (619 + k) ∧ M (56 + k) 4 = M 929 (631 + k)) ∧ (1 ≤ M 929 (583 + k) ∧ M 929 (583 + k) ≤ 9) ∧ (1 ≤ M 929 (595 + k) ∧ M 929 (595 + k) ≤ M 929 (607 + k) ∧ M 929 (607 + k) ≤ 999) ∧ (0 ≤ M 929 (619 + k) ∧ M 929 (619 + k) ≤ 99) ∧ (0 ≤ M 929 (631 + k) ∧ M 929 (631 + k) ≤ 1) := by
  have a := h.2.2.2.2.1 k h0 h1
  simp only [cv1] at a
  exact ⟨a, h.1.2.2.2.1 k h0 h1⟩
theorem CR.pers {M : jM} (h : CR M) {p : Int} (h0 : 0 ≤ p) (h1 : p < M 929 643) : (M (68 + p) 0 = M 929 (644 + p) ∧ M (68 + p) 1 = M 929 (660 + p) ∧ M (68 + p) 2 = M 929 (676 + p) ∧ M (68 + p) 3 = M 929 (692 + p) ∧ M (68 + p) 4 = M 929 (3759 + p)) ∧ (0 ≤ M 929 (644 + p) ∧ M 929 (644 + p) ≤ 999) ∧ (0 ≤ M 929 (660 + p) ∧ M 929 (660 + p) ≤ 999) ∧ (0 ≤ M 929 (676 + p) ∧ M 929 (676 + p) ≤ 999) ∧ (0 ≤ M 929 (3759 + p) ∧ M 929 (3759 + p) ≤ 999) := by
  have a := h.2.2.2.2.2.1 p h0 h1
  simp only [cv1] at a
  exact ⟨a, h.1.2.2.2.2.1 p h0 h1⟩
theorem CR.pl {M : jM} (h : CR M) {p : Int} (h0 : 0 ≤ p) (h1 : p < M 929 709) : (M (84 + p) 0 = M 929 (710 + p) ∧ M (84 + p) 1 = M 929 (770 + p) ∧ M (84 + p) 2 = M 929 (830 + p) ∧ M (84 + p) 3 = M 929 (890 + p) ∧ M (84 + p) 4 = M 929 (1130 + p) ∧ M (84 + p) 5 = M 929 (950 + p) ∧ M (84 + p) 6 = M 929 (1010 + p) ∧ M (84 + p) 7 = M 929 (1070 + p)) ∧ (M 929 (1010 + p) = 1 → M (84 + p) 8 = M 929 (1190 + p)) ∧ (M 929 (1010 + p) = 2 → M (84 + p) 9 = M 929 (1190 + p)) ∧ M (84 + p) 10 = M 929 (1250 + p) ∧ M (84 + p) 11 = M 929 (3775 + p) ∧ M (84 + p) 12 = M 929 (3835 + p) := by
  have a := h.2.2.2.2.2.2.1 p h0 h1
  simp only [cv1] at a
  exact a
theorem CR.plr {M : jM} (h : CR M) {p : Int} (h0 : 0 ≤ p) (h1 : p < M 929 709) : (0 ≤ M 929 (710 + p) ∧ M 929 (710 + p) < M 929 582) ∧ (0 ≤ M 929 (770 + p) ∧ M 929 (770 + p) < M 929 643) ∧ (1 ≤ M 929 (830 + p) ∧ M 929 (830 + p) ≤ 999) ∧ (0 ≤ M 929 (890 + p) ∧ M 929 (890 + p) ≤ M 929 708) ∧ (0 ≤ M 929 (1130 + p) ∧ M 929 (1130 + p) ≤ M 929 708) ∧
  (-1 ≤ M 929 (950 + p) ∧ M 929 (950 + p) < M 929 1761 ∧ (M 929 (1010 + p) ≠ 0 → M 929 (950 + p) = -1)) ∧ (0 ≤ M 929 (1010 + p) ∧ M 929 (1010 + p) ≤ 2) ∧ (M 929 (1010 + p) ≠ 0 → 0 ≤ M 929 (1190 + p) ∧ M 929 (1190 + p) ≤ M 929 708) := h.1.2.2.2.2.2.1 p h0 h1
theorem CR.tk {M : jM} (h : CR M) {t : Int} (h0 : 0 ≤ t) (h1 : t < M 929 1310) : (M (144 + t) 0 = M 929 (1311 + t) ∧ M (144 + t) 1 = M 929 (1461 + t) ∧ M (144 + t) 2 = M 929 (3609 + t) ∧ M (144 + t) 3 = M 929 (1611 + t)) ∧ (0 ≤ M 929 (1311 + t) ∧ M 929 (1311 + t) < M 929 709) ∧ (0 ≤ M 929 (1461 + t) ∧ M 929 (1461 + t) < M 929 643) ∧ (0 ≤ M 929 (1611 + t) ∧ M 929 (1611 + t) ≤ 1) ∧ (0 ≤ M 929 (3609 + t) ∧ M 929 (3609 + t) ≤ 3) := by
  have a := h.2.2.2.2.2.2.2.1 t h0 h1
  simp only [cv1] at a
  exact ⟨a, h.1.2.2.2.2.2.2.2.1 t h0 h1⟩
theorem CR.rk {M : jM} (h : CR M) {r : Int} (h0 : 0 ≤ r) (h1 : r < M 929 1761) : (M (21 + r) 0 = M 929 (1762 + r) ∧ M (21 + r) 1 = M 929 (1772 + r)) ∧ (1 ≤ M 929 (1762 + r) ∧ M 929 (1762 + r) ≤ 99) ∧ (0 ≤ M 929 (1772 + r) ∧ M 929 (1772 + r) ≤ 99) := by
  have a := h.2.2.2.2.2.2.2.2.1 r h0 h1
  simp only [cv1] at a
  exact ⟨a, h.1.2.2.2.2.2.2.2.2.1 r h0 h1⟩
theorem CR.bk {M : jM} (h : CR M) {w : Int} (h0 : 0 ≤ w) (h1 : w < 301) : M 32 w = M 929 (1782 + w) ∧ M 33 w = M 929 (2083 + w) ∧ M 34 w = M 929 (2384 + w) ∧ M 35 w = M 929 (2685 + w) ∧ M 36 w = M 929 (2986 + w) ∧ M 37 w = M 929 (3287 + w) := h.2.2.2.2.2.2.2.2.2.1 w h0 h1
theorem CR.hd {M : jM} (h : CR M) {k j : Int} (h0 : 0 ≤ k) (h1 : k < 4) (h2 : 0 ≤ j) (h3 : j < 5) : M (39 + k) j = M 929 (3588 + 5 * k + j) ∧ 0 ≤ M 929 (3588 + 5 * k + j) ∧ M 929 (3588 + 5 * k + j) ≤ 9 := by
  have a := h.2.2.2.2.2.2.2.2.2.2.1 k j h0 h1 h2 h3
  simp only [cv1] at a
  have b := h.1.2.2.2.2.2.2.2.2.2.1 (5 * k + j) (by omega) (by omega)
  rw [← Int.add_assoc] at b
  exact ⟨a, b⟩
theorem CR.ls {M : jM} (h : CR M) {i : Int} (h0 : 0 ≤ i) (h1 : i < M 929 3895) : M (44 + i) 0 = M 929 (3896 + i) ∧ M (44 + i) 1 = M 929 (3908 + i) := by
  have a := h.2.2.2.2.2.2.2.2.2.2.2.1 i h0 h1
  simp only [cv1] at a
  exact a
theorem CR.law {M : jM} (h : CR M) : M 2 0 = M 929 0 ∧ M 2 5 = M 929 31 ∧ (∀ i, 0 ≤ i → i < M 929 0 → M 3 i = M 929 (1 + i) ∧ M 4 i = M 929 (9 + i) ∧ M 5 i = M 929 (17 + i)) ∧ (∀ i, 0 ≤ i → i < 6 → M 6 i = M 929 (25 + i)) := h.2.2.1
theorem CR.olaw {M : jM} (h : CR M) : M 7 0 = M 929 32 ∧ M 7 5 = M 929 63 ∧ (∀ i, 0 ≤ i → i < M 929 32 → M 8 i = M 929 (33 + i) ∧ M 9 i = M 929 (41 + i) ∧ M 10 i = M 929 (49 + i)) ∧ (∀ i, 0 ≤ i → i < 1 → M 11 i = M 929 (57 + i)) := h.2.2.2.1
theorem CR.rlaw {M : jM} (h : CR M) : RLaw (M 929) 0 := h.1.2.1
theorem CR.rolaw {M : jM} (h : CR M) : RLaw (M 929) 32 := h.1.2.2.1
/-- what is told once, in its bounds -/
theorem CR.rule {M : jM} (h : CR M) : (M 6 0 = M 929 25 ∧ M 6 1 = M 929 26 ∧ M 6 2 = M 929 27 ∧ M 6 3 = M 929 28 ∧ M 6 4 = M 929 29 ∧ M 6 5 = M 929 30) ∧ (0 ≤ M 929 25 ∧ M 929 25 ≤ 99) ∧ (0 ≤ M 929 26 ∧ M 929 26 ≤ 20) ∧ (0 ≤ M 929 27 ∧ M 929 27 ≤ 99) ∧ (0 ≤ M 929 28 ∧ M 929 28 ≤ 104) ∧ (0 ≤ M 929 29 ∧ M 929 29 ≤ 20) ∧ (0 ≤ M 929 30 ∧ M 929 30 ≤ 52) := by
  have a := h.law.2.2.2
  have b := h.rlaw.2.2.2
  exact ⟨⟨a 0 (by omega) (by omega), a 1 (by omega) (by omega), a 2 (by omega) (by omega), a 3 (by omega) (by omega), a 4 (by omega) (by omega), a 5 (by omega) (by omega)⟩, b⟩
theorem lTake_cong {up tk pr up2 tk2 pr2 : Int → Int} {loan : Int} : ∀ (n : Nat) (i : Int), (∀ j, i ≤ j → j < i + n → up j = up2 j ∧ tk j = tk2 j ∧ pr j = pr2 j) → lTake up tk pr loan n i = lTake up2 tk2 pr2 loan n i
  | 0, _, _ => rfl
  | n + 1, i, h => by
    have h1 := h i (by omega) (by omega)
    rw [lTake, lTake, h1.1, h1.2.1, h1.2.2, lTake_cong n (i + 1) (fun j a b => h j (by omega) (by omega))]
/-- the law in the class's cells k .. k+4, the same as that at o of the row -/
def LRel (M : jM) (k o : Int) : Prop := RLaw (M 929) o ∧ M k 0 = M 929 o ∧ (∀ i, 0 ≤ i → i < M 929 o → M (k + 1) i = M 929 (o + 1 + i) ∧ M (k + 2) i = M 929 (o + 9 + i) ∧ M (k + 3) i = M 929 (o + 17 + i)) ∧ M (k + 4) 0 = M 929 (o + 25)
theorem CR.lrel {M : jM} (h : CR M) : LRel M 2 0 := ⟨h.rlaw, h.law.1, h.law.2.2.1, h.law.2.2.2 0 (by omega) (by omega)⟩
theorem CR.lrelo {M : jM} (h : CR M) : LRel M 7 32 := ⟨h.rolaw, h.olaw.1, h.olaw.2.2.1, h.olaw.2.2.2 0 (by omega) (by omega)⟩
theorem LRel.ok {M : jM} {k o : Int} (h : LRel M k o) : lOk M k := by
  obtain ⟨hr, h0, h1, h2⟩ := h
  refine ⟨by rw [h0]; exact hr.1, fun i a b => ?_, fun i j a b c => ?_, by rw [h2]; exact hr.2.2.2.1⟩
  · rw [h0] at b
    have e := h1 i a b
    have f := hr.2.1 i a b
    rw [e.1, e.2.1, e.2.2]
    omega
  · rw [h0] at c
    rw [(h1 i a (by omega)).1, (h1 j (by omega) c).1]
    exact hr.2.2.1 i j a b c
theorem LRel.top {M : jM} {k o : Int} (h : LRel M k o) : lTop M k = rTop (M 929) o := by
  obtain ⟨hr, h0, h1, h2⟩ := h
  unfold lTop rTop fTop
  rw [h0]
  split
  · exact (h1 _ (by omega) (by omega)).1
  · rfl
theorem LRel.half {M : jM} {k o loan : Int} (h : LRel M k o) : lHalf M k loan = rHalf (M 929) o loan := by
  obtain ⟨hr, h0, h1, h2⟩ := h
  unfold lHalf rHalf
  rw [h0]
  exact lTake_cong _ 0 (fun j a b => h1 j a (by omega))
theorem LRel.chg {M : jM} {k o loan hv : Int} (h : LRel M k o) : lChg M k loan hv = rChg (M 929) o loan hv := by
  unfold lChg rChg
  rw [h.half, h.2.2.2]
theorem lTake_zero {up tk pr : Int → Int} {loan : Int} : ∀ (n : Nat) (i : Int), (∀ j, i ≤ j → j < i + n → up j < loan) → lTake up tk pr loan n i = 0
  | 0, _, _ => rfl
  | n + 1, i, h => by
    have h1 := h i (by omega) (by omega)
    rw [lTake, if_neg (by omega)]
    exact lTake_zero n (i + 1) (fun j a b => h j (by omega) (by omega))
/-- what can't be lent costs least -/
theorem rChg_out {a : Int → Int} {o loan hv : Int} (hO : RLaw a o) (h : rTop a o < loan) : rChg a o loan hv = a (o + 25) := by
  have e : rHalf a o loan = 0 := lTake_zero _ 0 (fun j h0 h1 => by
    have h2 := hO.1
    have := rTop_le hO h0 (show j < a o by omega)
    show a (o + 1 + j) < loan
    omega)
  unfold rChg
  rw [e, Int.mul_zero]
  have := hO.2.2.2.1
  omega
theorem rI_eq {a : Int → Int} {p : Int} (hO : RLaw a 0) : rI a p = rChg a 0 (a (830 + p)) (1 + (a 708 - a (890 + p)) / 2) := by
  unfold rI
  split
  · rfl
  · rw [rChg_out hO (by omega)]
    rfl
theorem RInv.okM {a : Int → Int} (h : RInv a) {p : Int} (h0 : 0 ≤ p) (h1 : p < a 709) : rOkM a p := by
  have h2 := h.2.2.2.2.2.1 p h0 h1
  have h3 := h.1
  have h4 := h.2.1.2.2.2
  unfold RCnt at h3
  refine ⟨by omega, by omega, by omega, h4.2.2.2.2.1⟩
theorem RInv.low {a : Int → Int} (h : RInv a) {p : Int} (h0 : 0 ≤ p) (h1 : p < a 709) : 0 ≤ a (595 + a (710 + p)) ∧ a (595 + a (710 + p)) ≤ 999 := by
  have h2 := h.2.2.2.2.2.1 p h0 h1
  have h3 := h.2.2.2.1 _ h2.1.1 h2.1.2
  omega
theorem RInv.high {a : Int → Int} (h : RInv a) {p : Int} (h0 : 0 ≤ p) (h1 : p < a 709) : 0 ≤ a (607 + a (710 + p)) ∧ a (607 + a (710 + p)) ≤ 999 := by
  have h2 := h.2.2.2.2.2.1 p h0 h1
  have h3 := h.2.2.2.1 _ h2.1.1 h2.1.2
  omega
theorem CR.look {M : jM} (h : CR M) : M 12 0 = M 929 65 := h.2.2.2.2.2.2.2.2.2.2.2.2.1
theorem fTop_0 {M : jM} : M 929 32 = 0 → rTop (M 929) 32 = 0 := fun h => by
  unfold rTop fTop
  rw [if_neg (by omega)]
