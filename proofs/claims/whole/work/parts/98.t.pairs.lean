/-! TEXTS *** looks: what a test does *** no program *** -/
def pEmit (k v : Int) (s : PS) : PS := (s.1, s.2.1, s.2.2.1, s.2.2.2.1, s.2.2.2.2.1, s.2.2.2.2.2.1, s.2.2.2.2.2.2.1, s.2.2.2.2.2.2.2.1 + 1, s.2.2.2.2.2.2.2.2.1, upd1 (upd1 s.2.2.2.2.2.2.2.2.2 (82 + 2 * s.2.2.2.2.2.2.2.1) k) (82 + 2 * s.2.2.2.2.2.2.2.1 + 1) v)
def pEm (k : Int) (s : PS) : PS := if s.2.2.2.2.1 = 0 then pEmit k 0 s else s
def aLo (k : Int) : Int := if k = 16 then 1 else 0
def aHi (k : Int) : Int := if k = 15 then 11 else if k = 16 then 9 else if k = 17 then 999 else if k = 18 then 300 else 15
def pAt2 (t : Int → Int) (n : Int) (s : PS) : PS := if s.2.2.1 = 14 then pNext t n s else pRead t n (aLo s.2.2.1) (aHi s.2.2.1) (pNext t n s)
def pAtom (t : Int → Int) (n : Int) (s : PS) : PS := if 14 ≤ s.2.2.1 ∧ s.2.2.1 ≤ 19 then (if (pAt2 t n s).2.2.2.2.1 = 0 then pEmit s.2.2.1 (if s.2.2.1 = 14 then 0 else (pNext t n s).2.2.2.1) (pAt2 t n s) else pAt2 t n s) else pFail 2 s
def pIn (s : PS) : PS := (s.1, s.2.1, s.2.2.1, s.2.2.2.1, s.2.2.2.2.1, s.2.2.2.2.2.1, s.2.2.2.2.2.2.1 + 1, s.2.2.2.2.2.2.2)
def pOut (s : PS) : PS := (s.1, s.2.1, s.2.2.1, s.2.2.2.1, s.2.2.2.2.1, s.2.2.2.2.2.1, s.2.2.2.2.2.2.1 - 1, s.2.2.2.2.2.2.2)
def prs (t : Int → Int) (n : Int) : Nat → Nat → PS → PS
  | 0, _, s => s
  | f + 1, m, s =>
    if m = 0 then
      if s.2.2.2.2.1 ≠ 0 then s
      else if s.2.2.1 = 13 then (if s.2.2.2.2.2.2.1 = 8 then pFail 5 s else pEm 13 (pOut (prs t n f 0 (pIn (pNext t n s)))))
      else if s.2.2.1 = 23 then (if s.2.2.2.2.2.2.1 = 8 then pFail 5 s else pMust t n 24 (pOut (prs t n f 4 (pIn (pNext t n s)))))
      else pAtom t n s
    else if m = 1 then (if s.2.2.2.2.1 = 0 ∧ s.2.2.1 = 12 then prs t n f 1 (pEm 12 (prs t n f 0 (pNext t n s))) else s)
    else if m = 2 then (if s.2.2.2.2.1 = 0 ∧ s.2.2.1 = 11 then prs t n f 2 (pEm 11 (prs t n f 3 (pNext t n s))) else s)
    else if m = 3 then prs t n f 1 (prs t n f 0 s)
    else prs t n f 2 (prs t n f 3 s)
/-- a state behind s while a test is read -/
def PQ (n : Int) (s z : PS) : Prop := PI n z ∧ s.1 ≤ z.1 ∧ s.1 - 2 * s.2.2.2.2.2.2.2.1 ≤ z.1 - 2 * z.2.2.2.2.2.2.2.1 ∧ s.2.2.2.2.2.2.2.1 ≤ z.2.2.2.2.2.2.2.1 ∧ z.2.2.2.2.2.2.1 = s.2.2.2.2.2.2.1 ∧ (∀ i : Int, i < 82 + 2 * s.2.2.2.2.2.2.2.1 → z.2.2.2.2.2.2.2.2.2 i = s.2.2.2.2.2.2.2.2.2 i) ∧ (s.2.2.2.2.1 ≠ 0 → z = s)
section
variable {M : jM} {n : Int} {s z y : PS}
theorem PQ.rf (h : PI n s) : PQ n s s := ⟨h, Int.le_refl _, Int.le_refl _, Int.le_refl _, rfl, fun _ _ => rfl, fun _ => rfl⟩
theorem PQ.trans (h : PQ n s z) (g : PQ n z y) : PQ n s y := by
  obtain ⟨h1, h2, h3, h4, h5, h6, h7⟩ := h
  obtain ⟨g1, g2, g3, g4, g5, g6, g7⟩ := g
  refine ⟨g1, by omega, by omega, by omega, by omega, fun i hi => ?_, fun e => ?_⟩
  · rw [g6 i (by omega), h6 i hi]
  · have e1 := h7 e
    rw [g7 (by rw [e1]; exact e), e1]
theorem PK.pq (h : PK n s z) : PQ n s z := by
  have e := h.2.2.2
  have e1 : z.2.2.2.2.2.2.2.1 = s.2.2.2.2.2.2.2.1 := congrArg (fun z => z.2.1) e
  have e2 := h.2.1
  exact ⟨h.1, h.2.1, by omega, by omega, congrArg (fun z => z.1) e, fun i _ => by rw [h.pa], h.2.2.1⟩
theorem pi_emit {k v : Int} (h : PI n s) (hs : 2 * s.2.2.2.2.2.2.2.1 + 2 ≤ s.1) : PI n (pEmit k v s) := by
  obtain ⟨h1, h2, h3, h4, h5, h6, h7, h8, h9, h10⟩ := h
  have f : ∀ i : Int, i < 82 → (pEmit k v s).2.2.2.2.2.2.2.2.2 i = s.2.2.2.2.2.2.2.2.2 i := fun i hi => by
    unfold pEmit
    dsimp only
    rw [u2 (by omega), u2 (by omega)]
  refine ⟨h1, h2, h3, h4, ?_, h6, ?_, ?_, fun i a b => ?_, ?_⟩
  · show 0 ≤ s.2.2.2.2.2.2.2.1 + 1 ∧ 2 * (s.2.2.2.2.2.2.2.1 + 1) ≤ s.1
    omega
  · rw [f 0 (by omega)]
    exact h7
  · rw [f 65 (by omega)]
    exact h8
  · rw [f 0 (by omega)] at b
    rw [f (1 + i) (by omega)]
    exact h9 i a b
  · rw [f 31 (by omega)]
    exact h10
/-- a word of at least two letters was read ahead of it -/
theorem pq_em {k v : Int} (hI : PI n s) (h : PQ n s z) (hw : s.2.2.2.2.1 = 0) (hs : s.1 + 2 - 2 * s.2.2.2.2.2.2.2.1 ≤ z.1 - 2 * z.2.2.2.2.2.2.2.1) : PQ n s (pEmit k v z) := by
  obtain ⟨h1, h2, h3, h4, h5, h6, h7⟩ := h
  have q := h1.2.2.2.2.1
  have q0 := hI.2.2.2.2.1
  refine ⟨pi_emit h1 (by have := h1.1; omega), h2, ?_, ?_, h5, fun i hi => ?_, fun e => absurd hw e⟩
  · show s.1 - 2 * s.2.2.2.2.2.2.2.1 ≤ z.1 - 2 * (z.2.2.2.2.2.2.2.1 + 1)
    omega
  · show s.2.2.2.2.2.2.2.1 ≤ z.2.2.2.2.2.2.2.1 + 1
    omega
  · have e : (pEmit k v z).2.2.2.2.2.2.2.2.2 i = z.2.2.2.2.2.2.2.2.2 i := by
      unfold pEmit
      dsimp only
      rw [u2 (by omega), u2 (by omega)]
    rw [e, h6 i hi]
theorem pq_em0 {k : Int} (hI : PI n s) (h : PQ n s z) (hw : s.2.2.2.2.1 = 0) (hs : s.1 + 2 - 2 * s.2.2.2.2.2.2.2.1 ≤ z.1 - 2 * z.2.2.2.2.2.2.2.1) : PQ n s (pEm k z) := by
  unfold pEm
  split
  · exact pq_em hI h hw hs
  · exact h
theorem pq_next (hT : RT M n) (hI : PI n s) (hw : s.2.2.2.2.1 = 0) (hk : s.2.2.1 ≤ 19) : PQ n s (pNext (M 931) n s) ∧ s.1 + 2 - 2 * s.2.2.2.2.2.2.2.1 ≤ (pNext (M 931) n s).1 - 2 * (pNext (M 931) n s).2.2.2.2.2.2.2.1 := by
  have h := pk_next hT hI hw
  have hl := hI.2.1.2.2.1 hk
  have q := h.1.pq
  refine ⟨q, ?_⟩
  have e : (pNext (M 931) n s).2.2.2.2.2.2.2.1 = s.2.2.2.2.2.2.2.1 := rfl
  rw [e]
  have := h.2
  omega
theorem pq_atom (hT : RT M n) (hI : PI n s) (hw : s.2.2.2.2.1 = 0) : PQ n s (pAtom (M 931) n s) := by
  unfold pAtom
  split
  · rename_i c
    have h := pq_next hT hI hw (by omega)
    have h2 : PQ n (pNext (M 931) n s) (pAt2 (M 931) n s) := by
      unfold pAt2
      split
      · exact PQ.rf h.1.1
      · exact (pk_read hT h.1.1).pq
    have h3 := h.1.trans h2
    split
    · refine pq_em hI h3 hw ?_
      have a := h.2
      have b := h2.2.2.1
      omega
    · exact h3
  · exact (pk_fail (by omega) hI).1.pq
theorem pi_in (h : PI n s) (hd : s.2.2.2.2.2.2.1 ≠ 8) : PI n (pIn s) := by
  obtain ⟨h1, h2, h3, h4, h5, h6, h7, h8, h9, h10⟩ := h
  refine ⟨h1, h2, h3, h4, h5, ?_, h7, h8, h9, h10⟩
  show 0 ≤ s.2.2.2.2.2.2.1 + 1 ∧ s.2.2.2.2.2.2.1 + 1 ≤ 8
  omega
/-- in and out again -/
theorem pq_io (hd : 0 ≤ s.2.2.2.2.2.2.1 ∧ s.2.2.2.2.2.2.1 ≤ 8) (hI : PI n s) (h : PQ n (pIn s) z) : PQ n s (pOut z) := by
  obtain ⟨h1, h2, h3, h4, h5, h6, h7⟩ := h
  obtain ⟨g1, g2, g3, g4, g5, g6, g7, g8, g9, g10⟩ := h1
  have e5 : z.2.2.2.2.2.2.1 = s.2.2.2.2.2.2.1 + 1 := h5
  refine ⟨⟨g1, g2, g3, g4, g5, ?_, g7, g8, g9, g10⟩, h2, h3, h4, ?_, h6, fun e => ?_⟩
  · show 0 ≤ z.2.2.2.2.2.2.1 - 1 ∧ z.2.2.2.2.2.2.1 - 1 ≤ 8
    omega
  · show z.2.2.2.2.2.2.1 - 1 = s.2.2.2.2.2.2.1
    omega
  · have q := h7 e
    rw [q]
    show (s.1, s.2.1, s.2.2.1, s.2.2.2.1, s.2.2.2.2.1, s.2.2.2.2.2.1, s.2.2.2.2.2.2.1 + 1 - 1, s.2.2.2.2.2.2.2) = s
    rw [show s.2.2.2.2.2.2.1 + 1 - 1 = s.2.2.2.2.2.2.1 by omega]
theorem prs_ok (hT : RT M n) : ∀ (f m : Nat) (s : PS), PI n s → PQ n s (prs (M 931) n f m s)
  | 0, _, _, h => PQ.rf h
  | f + 1, m, s, h => by
    rw [prs]
    split
    · split
      · exact PQ.rf h
      · rename_i hw
        have hw : s.2.2.2.2.1 = 0 := by omega
        split
        · split
          · exact (pk_fail (by omega) h).1.pq
          · rename_i c d
            have h1 := pq_next hT h hw (by omega)
            have h2 := pq_io (s := pNext (M 931) n s) h.2.2.2.2.2.1 h1.1.1 (prs_ok hT f 0 _ (pi_in h1.1.1 d))
            refine pq_em0 h (h1.1.trans h2) hw ?_
            have a := h1.2
            have b := h2.2.2.1
            omega
        · split
          · split
            · exact (pk_fail (by omega) h).1.pq
            · rename_i c d
              have h1 := (pk_next hT h hw).1.pq
              have h2 := pq_io (s := pNext (M 931) n s) h.2.2.2.2.2.1 h1.1 (prs_ok hT f 4 _ (pi_in h1.1 d))
              exact (h1.trans h2).trans (pk_must hT h2.1).pq
          · exact pq_atom hT h hw
    · split
      · split
        · rename_i c
          have h1 := pq_next hT h c.1 (by omega)
          have h2 := prs_ok hT f 0 _ h1.1.1
          have h3 := pq_em0 (k := 12) h (h1.1.trans h2) c.1 (by have a := h1.2; have b := h2.2.2.1; omega)
          exact h3.trans (prs_ok hT f 1 _ h3.1)
        · exact PQ.rf h
      · split
        · split
          · rename_i c
            have h1 := pq_next hT h c.1 (by omega)
            have h2 := prs_ok hT f 3 _ h1.1.1
            have h3 := pq_em0 (k := 11) h (h1.1.trans h2) c.1 (by have a := h1.2; have b := h2.2.2.1; omega)
            exact h3.trans (prs_ok hT f 2 _ h3.1)
          · exact PQ.rf h
        · split
          · have h1 := prs_ok hT f 0 _ h
            exact h1.trans (prs_ok hT f 1 _ h1.1)
          · have h1 := prs_ok hT f 3 _ h
            exact h1.trans (prs_ok hT f 2 _ h1.1)
end
