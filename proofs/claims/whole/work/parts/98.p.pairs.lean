/-! TEXTS *** the law: what a line does *** no program *** -/
def PI (n : Int) (s : PS) : Prop := (0 ≤ s.1 ∧ s.1 ≤ s.2.1 ∧ s.2.1 ≤ n) ∧ (0 ≤ s.2.2.1 ∧ s.2.2.1 ≤ 26 ∧ (s.2.2.1 ≤ 19 → s.1 + 2 ≤ s.2.1) ∧ (s.2.2.1 ≠ 25 → s.1 < s.2.1)) ∧ (-2147483648 ≤ s.2.2.2.1 ∧ s.2.2.2.1 ≤ 2147483647) ∧ (0 ≤ s.2.2.2.2.1 ∧ s.2.2.2.2.1 ≤ 5) ∧ (0 ≤ s.2.2.2.2.2.2.2.1 ∧ 2 * s.2.2.2.2.2.2.2.1 ≤ s.1) ∧ (0 ≤ s.2.2.2.2.2.2.1 ∧ s.2.2.2.2.2.2.1 ≤ 8) ∧ (0 ≤ s.2.2.2.2.2.2.2.2.2 0 ∧ s.2.2.2.2.2.2.2.2.2 0 ≤ 8) ∧ (0 ≤ s.2.2.2.2.2.2.2.2.2 65 ∧ s.2.2.2.2.2.2.2.2.2 65 ≤ 8) ∧ (∀ i : Int, 0 ≤ i → i < s.2.2.2.2.2.2.2.2.2 0 → 1 ≤ s.2.2.2.2.2.2.2.2.2 (1 + i) ∧ s.2.2.2.2.2.2.2.2.2 (1 + i) ≤ 999) ∧ (0 ≤ s.2.2.2.2.2.2.2.2.2 31 ∧ (s.2.2.2.2.1 = 0 → s.2.2.2.2.2.2.2.2.2 31 ≤ s.1) ∧ s.2.2.2.2.2.2.2.2.2 31 ≤ s.1 + 1)
/-- only the place, the token and the fault are others -/
def PM (s z : PS) : Prop := s.1 ≤ z.1 ∧ (s.2.2.2.2.1 ≠ 0 → z = s) ∧ z.2.2.2.2.2.2 = s.2.2.2.2.2.2
def PK (n : Int) (s z : PS) : Prop := PI n z ∧ PM s z
section
variable {M : jM} {n : Int} {s z y : PS}
theorem PI.rng (h : PI n s) : 0 ≤ s.2.1 ∧ s.2.1 ≤ n := by
  have := h.1
  omega
theorem PK.rf (h : PI n s) : PK n s s := ⟨h, Int.le_refl _, fun _ => rfl, rfl⟩
theorem PK.trans (h : PK n s z) (g : PK n z y) : PK n s y := by
  refine ⟨g.1, Int.le_trans h.2.1 g.2.1, fun e => ?_, g.2.2.2.trans h.2.2.2⟩
  have e1 := h.2.2.1 e
  have e2 := g.2.2.1 (by rw [e1]; exact e)
  rw [e2, e1]
theorem pk_tok (hT : RT M n) {b v : Int} (hb : 0 ≤ b ∧ b ≤ n) (hv : -2147483648 ≤ v ∧ v ≤ 2147483647) : (b ≤ tPl (M 931) n b ∧ tPl (M 931) n b ≤ tBe (M 931) n (tPl (M 931) n b) ∧ tBe (M 931) n (tPl (M 931) n b) ≤ n) ∧ (0 ≤ tKd (M 931) n (tPl (M 931) n b) ∧ tKd (M 931) n (tPl (M 931) n b) ≤ 26 ∧ (tKd (M 931) n (tPl (M 931) n b) ≤ 19 → tPl (M 931) n b + 2 ≤ tBe (M 931) n (tPl (M 931) n b)) ∧ (tKd (M 931) n (tPl (M 931) n b) ≠ 25 → tPl (M 931) n b < tBe (M 931) n (tPl (M 931) n b))) ∧ (-2147483648 ≤ tNu (M 931) n (tPl (M 931) n b) v ∧ tNu (M 931) n (tPl (M 931) n b) v ≤ 2147483647) := by
  have hr := tBl_rng (t := M 931) (n - b).toNat b
  have hq0 : b ≤ tPl (M 931) n b ∧ tPl (M 931) n b ≤ n := by
    unfold tPl
    omega
  obtain ⟨q, hq⟩ : ∃ q, q = tPl (M 931) n b := ⟨_, rfl⟩
  rw [← hq] at hq0 ⊢
  by_cases h1 : n ≤ q
  · have e1 : tBe (M 931) n q = q := if_pos h1
    have e2 : tKd (M 931) n q = 25 := if_pos h1
    have e3 : tNu (M 931) n q v = v := if_pos h1
    rw [e1, e2, e3]
    omega
  · have hby := hT.2.2 q (by omega) (by omega)
    by_cases h2 : 97 ≤ M 931 q ∧ M 931 q ≤ 122
    · have e1 : tBe (M 931) n q = tSm (M 931) (n - q).toNat q := (if_neg h1).trans (if_pos h2)
      have e2 : tKd (M 931) n q = kx0 (M 931) q (tBe (M 931) n q) := (if_neg h1).trans (if_pos h2)
      have e3 : tNu (M 931) n q v = v := (if_neg h1).trans (if_pos h2)
      have g := kx0_ge (t := M 931) (p := q) (b := tBe (M 931) n q)
      have g2 := kw_len (t := M 931) (p := q) (b := tBe (M 931) n q)
      have g3 : q + 1 ≤ tSm (M 931) (n - q).toNat q ∧ tSm (M 931) (n - q).toNat q ≤ n := by
        have u := tSm_rng (t := M 931) ((n - q).toNat - 1) (q + 1)
        rw [show (n - q).toNat = ((n - q).toNat - 1) + 1 by omega, tSm, if_pos h2]
        omega
      rw [e2, e3]
      rw [e1] at g g2 ⊢
      omega
    · by_cases h3 : 48 ≤ M 931 q ∧ M 931 q ≤ 57
      · have e1 : tBe (M 931) n q = tDg (M 931) (n - q).toNat q := (if_neg h1).trans ((if_neg h2).trans (if_pos h3))
        have e2 : tKd (M 931) n q = if 3 < tBe (M 931) n q - q then 26 else 21 := (if_neg h1).trans ((if_neg h2).trans (if_pos h3))
        have e3 : tNu (M 931) n q v = tNum (M 931) q (tBe (M 931) n q - q) := (if_neg h1).trans ((if_neg h2).trans (if_pos h3))
        have g3 : q + 1 ≤ tDg (M 931) (n - q).toNat q ∧ tDg (M 931) (n - q).toNat q ≤ n := by
          have u := tDg_rng (t := M 931) ((n - q).toNat - 1) (q + 1)
          rw [show (n - q).toNat = ((n - q).toNat - 1) + 1 by omega, tDg, if_pos h3]
          omega
        have g4 := tNum_in (t := M 931) (p := q) (k := tDg (M 931) (n - q).toNat q - q) (fun i a c => hT.2.2 i (by omega) (by omega))
        rw [e2, e3, e1]
        split <;> omega
      · have e1 : tBe (M 931) n q = q + 1 := (if_neg h1).trans ((if_neg h2).trans (if_neg h3))
        have e2 : tKd (M 931) n q = _ := (if_neg h1).trans ((if_neg h2).trans (if_neg h3))
        have e3 : tNu (M 931) n q v = v := (if_neg h1).trans ((if_neg h2).trans (if_neg h3))
        rw [e2, e3, e1]
        split
        · omega
        · split
          · omega
          · split <;> omega
theorem pk_next (hT : RT M n) (h : PI n s) (hw : s.2.2.2.2.1 = 0) : PK n s (pNext (M 931) n s) ∧ s.2.1 ≤ (pNext (M 931) n s).1 := by
  obtain ⟨h1, h2, h3, h4, h5, h6, h7, h8, h9, h10⟩ := h
  have g := pk_tok hT (b := s.2.1) (v := s.2.2.2.1) (by omega) h3
  refine ⟨⟨⟨?_, ?_, ?_, h4, ?_, h6, h7, h8, h9, ?_⟩, ?_, fun e => absurd hw e, rfl⟩, g.1.1⟩
  · show 0 ≤ tPl (M 931) n s.2.1 ∧ tPl (M 931) n s.2.1 ≤ tBe (M 931) n (tPl (M 931) n s.2.1) ∧ tBe (M 931) n (tPl (M 931) n s.2.1) ≤ n
    omega
  · exact g.2.1
  · exact g.2.2
  · show 0 ≤ s.2.2.2.2.2.2.2.1 ∧ 2 * s.2.2.2.2.2.2.2.1 ≤ tPl (M 931) n s.2.1
    omega
  · show 0 ≤ s.2.2.2.2.2.2.2.2.2 31 ∧ (s.2.2.2.2.1 = 0 → s.2.2.2.2.2.2.2.2.2 31 ≤ tPl (M 931) n s.2.1) ∧ s.2.2.2.2.2.2.2.2.2 31 ≤ tPl (M 931) n s.2.1 + 1
    omega
  · show s.1 ≤ tPl (M 931) n s.2.1
    omega
theorem pk_fail {f : Int} (hf : 1 ≤ f ∧ f ≤ 5) (h : PI n s) : PK n s (pFail f s) ∧ (pFail f s).2.2.2.2.1 ≠ 0 := by
  unfold pFail
  by_cases e : s.2.2.2.2.1 ≠ 0
  · rw [if_pos e]
    exact ⟨PK.rf h, e⟩
  · rw [if_neg e]
    obtain ⟨h1, h2, h3, h4, h5, h6, h7, h8, h9, h10⟩ := h
    have hw : (if s.2.2.1 = 26 then (1 : Int) else f) ≠ 0 ∧ 0 ≤ (if s.2.2.1 = 26 then (1 : Int) else f) ∧ (if s.2.2.1 = 26 then (1 : Int) else f) ≤ 5 := by split <;> omega
    refine ⟨⟨⟨h1, h2, h3, ⟨hw.2.1, hw.2.2⟩, h5, h6, h7, h8, h9, ⟨h10.1, fun q => absurd q hw.1, h10.2.2⟩⟩, Int.le_refl _, fun q => absurd q e, rfl⟩, hw.1⟩
theorem pk_must {k : Int} (hT : RT M n) (h : PI n s) : PK n s (pMust (M 931) n k s) := by
  unfold pMust
  split
  · rename_i e
    exact (pk_next hT h e.1).1
  · exact (pk_fail (by omega) h).1
theorem pk_rd1 {lo hi : Int} (h : PI n s) : PK n s (pRd1 lo hi s) := by
  unfold pRd1
  split
  · exact (pk_fail (by omega) h).1
  · split
    · exact (pk_fail (by omega) h).1
    · exact PK.rf h
theorem pk_read {lo hi : Int} (hT : RT M n) (h : PI n s) : PK n s (pRead (M 931) n lo hi s) := by
  unfold pRead
  split
  · rename_i e
    exact (pk_rd1 h).trans (pk_next hT (pk_rd1 h).1 e).1
  · exact pk_rd1 h
theorem read_ok {lo hi : Int} (h : (pRead (M 931) n lo hi s).2.2.2.2.1 = 0) : s.2.2.2.2.1 = 0 ∧ s.2.2.1 = 21 ∧ lo ≤ s.2.2.2.1 ∧ s.2.2.2.1 ≤ hi ∧ pRead (M 931) n lo hi s = pNext (M 931) n s := by
  have hf : ∀ f : Int, 1 ≤ f → (pFail f s).2.2.2.2.1 ≠ 0 := fun f hf => by
    unfold pFail
    by_cases e : s.2.2.2.2.1 ≠ 0
    · rw [if_pos e]
      exact e
    · rw [if_neg e]
      show (if s.2.2.1 = 26 then (1 : Int) else f) ≠ 0
      split <;> omega
  unfold pRead at h ⊢
  unfold pRd1 at h ⊢
  by_cases e1 : ¬ (s.2.2.2.2.1 = 0 ∧ s.2.2.1 = 21)
  · rw [if_pos e1] at h
    rw [if_neg (hf 2 (by omega))] at h
    exact absurd h (hf 2 (by omega))
  · rw [if_neg e1] at h ⊢
    by_cases e2 : ¬ (lo ≤ s.2.2.2.1 ∧ s.2.2.2.1 ≤ hi)
    · rw [if_pos e2] at h
      rw [if_neg (hf 3 (by omega))] at h
      exact absurd h (hf 3 (by omega))
    · rw [if_neg e2] at h ⊢
      have e3 : s.2.2.2.2.1 = 0 := by omega
      rw [if_pos e3]
      exact ⟨by omega, by omega, by omega, by omega, rfl⟩
theorem must_ok {k : Int} (h : (pMust (M 931) n k s).2.2.2.2.1 = 0) : s.2.2.2.2.1 = 0 ∧ s.2.2.1 = k ∧ pMust (M 931) n k s = pNext (M 931) n s := by
  unfold pMust at h ⊢
  by_cases e1 : s.2.2.2.2.1 = 0 ∧ s.2.2.1 = k
  · rw [if_pos e1]
    exact ⟨e1.1, e1.2, rfl⟩
  · rw [if_neg e1] at h
    exfalso
    unfold pFail at h
    by_cases e : s.2.2.2.2.1 ≠ 0
    · rw [if_pos e] at h
      exact e h
    · rw [if_neg e] at h
      have h2 : (if s.2.2.1 = 26 then (1 : Int) else 2) = 0 := h
      split at h2 <;> omega
end
def pU1 (t : Int → Int) (n : Int) (s : PS) : PS := pNext t n s
def pU2 (t : Int → Int) (n : Int) (s : PS) : PS := pRead t n (if s.2.2.2.2.2.2.2.2.2 0 = 0 then 1 else s.2.2.2.2.2.2.2.2.2 (1 + s.2.2.2.2.2.2.2.2.2 0 - 1) + 1) 999 (pU1 t n s)
def pU3 (t : Int → Int) (n : Int) (s : PS) : PS := pMust t n 1 (pU2 t n s)
def pU4 (t : Int → Int) (n : Int) (s : PS) : PS := pRead t n 0 99 (pU3 t n s)
def pU5 (t : Int → Int) (n : Int) (s : PS) : PS := pMust t n 2 (pU4 t n s)
def pU6 (t : Int → Int) (n : Int) (s : PS) : PS := pRead t n 1 999 (pU5 t n s)
def pU7 (t : Int → Int) (n : Int) (s : PS) : PS := ((pU6 t n s).1, (pU6 t n s).2.1, (pU6 t n s).2.2.1, (pU6 t n s).2.2.2.1, (pU6 t n s).2.2.2.2.1, (pU6 t n s).2.2.2.2.2.1, (pU6 t n s).2.2.2.2.2.2.1, (pU6 t n s).2.2.2.2.2.2.2.1, (pU6 t n s).2.2.2.2.2.2.2.2.1, upd1 (upd1 (upd1 (upd1 (pU6 t n s).2.2.2.2.2.2.2.2.2 (1 + s.2.2.2.2.2.2.2.2.2 0) (pU1 t n s).2.2.2.1) (9 + s.2.2.2.2.2.2.2.2.2 0) (pU3 t n s).2.2.2.1) (17 + s.2.2.2.2.2.2.2.2.2 0) (pU5 t n s).2.2.2.1) 0 ((pU6 t n s).2.2.2.2.2.2.2.2.2 0 + 1))
def pUpto (t : Int → Int) (n : Int) (s : PS) : PS := if s.2.2.2.2.2.2.2.2.2 0 = 8 then pFail 4 s else if (pU6 t n s).2.2.2.2.1 ≠ 0 then pU6 t n s else pU7 t n s
def oLo (k : Int) : Int := if k = 6 ∨ k = 8 then 1 else 0
def oHi (k : Int) : Int := if k = 3 ∨ k = 5 then 99 else if k = 6 then 104 else if k = 8 then 52 else 20
def pO1 (s : PS) : PS := (s.1, s.2.1, s.2.2.1, s.2.2.2.1, s.2.2.2.2.1, s.2.2.2.2.2.1, s.2.2.2.2.2.2.1, s.2.2.2.2.2.2.2.1, jor s.2.2.2.2.2.2.2.2.1 (jshl 1 (s.2.2.1 - 3)), s.2.2.2.2.2.2.2.2.2)
def pO2 (t : Int → Int) (n : Int) (s : PS) : PS := pNext t n (pO1 s)
def pO3 (t : Int → Int) (n : Int) (s : PS) : PS := pRead t n (oLo s.2.2.1) (oHi s.2.2.1) (pO2 t n s)
def pO4 (t : Int → Int) (n : Int) (s : PS) : PS := ((pO3 t n s).1, (pO3 t n s).2.1, (pO3 t n s).2.2.1, (pO3 t n s).2.2.2.1, (pO3 t n s).2.2.2.2.1, (pO3 t n s).2.2.2.2.2.1, (pO3 t n s).2.2.2.2.2.2.1, (pO3 t n s).2.2.2.2.2.2.2.1, (pO3 t n s).2.2.2.2.2.2.2.2.1, upd1 (pO3 t n s).2.2.2.2.2.2.2.2.2 (25 + (s.2.2.1 - 3)) (pO2 t n s).2.2.2.1)
def pOnce (t : Int → Int) (n : Int) (s : PS) : PS := if jand (jshr s.2.2.2.2.2.2.2.2.1 (s.2.2.1 - 3)) 1 = 1 then pFail 4 s else pO4 t n s
def pL1 (t : Int → Int) (n : Int) (s : PS) : PS := if s.2.2.2.2.1 = 0 ∧ s.2.2.1 = 0 then pUpto t n s else if s.2.2.2.2.1 = 0 ∧ 3 ≤ s.2.2.1 ∧ s.2.2.1 ≤ 8 then pOnce t n s else pFail 2 s
def pL2 (t : Int → Int) (n : Int) (s : PS) : PS := pMust t n 22 (pL1 t n s)
def pLine (t : Int → Int) (n : Int) (s : PS) : PS := ((pL2 t n s).1, (pL2 t n s).2.1, (pL2 t n s).2.2.1, (pL2 t n s).2.2.2.1, (pL2 t n s).2.2.2.2.1, (pL2 t n s).2.2.2.2.2.1, (pL2 t n s).2.2.2.2.2.2.1, (pL2 t n s).2.2.2.2.2.2.2.1, (pL2 t n s).2.2.2.2.2.2.2.2.1, upd1 (pL2 t n s).2.2.2.2.2.2.2.2.2 31 ((pL2 t n s).2.2.2.2.2.2.2.2.2 31 + 1))
