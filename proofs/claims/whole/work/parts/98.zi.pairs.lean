/-! TEXTS *** what is read is well formed *** no program *** -/
def LRun (a : Int → Int) : Nat → Int → Int → Int → Prop
  | 0, _, d, e => d = e
  | f + 1, i, d, e => if a (82 + 2 * i) = 13 then 1 ≤ d ∧ LRun a f (i + 1) d e
    else if a (82 + 2 * i) = 12 ∨ a (82 + 2 * i) = 11 then 2 ≤ d ∧ LRun a f (i + 1) (d - 1) e
    else (14 ≤ a (82 + 2 * i) ∧ a (82 + 2 * i) ≤ 19) ∧ d ≤ 60 ∧ LRun a f (i + 1) (d + 1) e
theorem LRun.wf {a : Int → Int} : ∀ (f : Nat) (i d : Int), LRun a f i d 1 → LWf a f i d
  | 0, _, _, h => h
  | f + 1, i, d, h => by
    rw [LRun] at h
    rw [LWf]
    split
    · rename_i c
      rw [if_pos c] at h
      exact ⟨h.1, LRun.wf f _ _ h.2⟩
    · rename_i c
      rw [if_neg c] at h
      split
      · rename_i c2
        rw [if_pos c2] at h
        exact ⟨h.1, LRun.wf f _ _ h.2⟩
      · rename_i c2
        rw [if_neg c2] at h
        exact ⟨h.1, h.2.1, LRun.wf f _ _ h.2.2⟩
theorem LRun.app {a : Int → Int} {g : Nat} {e e2 : Int} : ∀ (f : Nat) (i d : Int), LRun a f i d e → LRun a g (i + f) e e2 → LRun a (f + g) i d e2
  | 0, i, d, h, h2 => by
    have h : d = e := h
    rw [h, Nat.zero_add]
    rw [show i + ((0 : Nat) : Int) = i by omega] at h2
    exact h2
  | f + 1, i, d, h, h2 => by
    have e3 : i + ((f + 1 : Nat) : Int) = (i + 1) + f := by omega
    rw [e3] at h2
    rw [show f + 1 + g = (f + g) + 1 by omega]
    rw [LRun] at h ⊢
    split
    · rename_i c
      rw [if_pos c] at h
      exact ⟨h.1, LRun.app f _ _ h.2 h2⟩
    · rename_i c
      rw [if_neg c] at h
      split
      · rename_i c2
        rw [if_pos c2] at h
        exact ⟨h.1, LRun.app f _ _ h.2 h2⟩
      · rename_i c2
        rw [if_neg c2] at h
        exact ⟨h.1, h.2.1, LRun.app f _ _ h.2.2 h2⟩
theorem LRun.cong {a b : Int → Int} {e : Int} : ∀ (f : Nat) (i d : Int), LRun a f i d e → (∀ j : Int, i ≤ j → j < i + f → b (82 + 2 * j) = a (82 + 2 * j)) → LRun b f i d e
  | 0, _, _, h, _ => h
  | f + 1, i, d, h, q => by
    have q0 := q i (by omega) (by omega)
    have q1 : ∀ j : Int, i + 1 ≤ j → j < i + 1 + f → b (82 + 2 * j) = a (82 + 2 * j) := fun j u v => q j (by omega) (by omega)
    rw [LRun] at h ⊢
    rw [q0]
    split
    · rename_i c
      rw [if_pos c] at h
      exact ⟨h.1, LRun.cong f _ _ h.2 q1⟩
    · rename_i c
      rw [if_neg c] at h
      split
      · rename_i c2
        rw [if_pos c2] at h
        exact ⟨h.1, LRun.cong f _ _ h.2 q1⟩
      · rename_i c2
        rw [if_neg c2] at h
        exact ⟨h.1, h.2.1, LRun.cong f _ _ h.2.2 q1⟩
def LSeg (s z : PS) (d e : Int) : Prop := LRun z.2.2.2.2.2.2.2.2.2 (z.2.2.2.2.2.2.2.1 - s.2.2.2.2.2.2.2.1).toNat s.2.2.2.2.2.2.2.1 d e
section
variable {M : jM} {n : Int} {s z y : PS} {d e g : Int}
theorem LSeg.trans (hI : PI n s) (q : PQ n s z) (h : LSeg s z d e) (q2 : PQ n z y) (h2 : LSeg z y e g) : LSeg s y d g := by
  have a := q.2.2.2.1
  have b := q2.2.2.2.1
  unfold LSeg at h h2 ⊢
  have h3 := LRun.cong (b := y.2.2.2.2.2.2.2.2.2) _ _ _ h (fun j u v => q2.2.2.2.2.2.1 _ (by omega))
  have h4 := LRun.app (g := (y.2.2.2.2.2.2.2.1 - z.2.2.2.2.2.2.2.1).toNat) (e2 := g) _ _ _ h3 (by rw [show s.2.2.2.2.2.2.2.1 + (((z.2.2.2.2.2.2.2.1 - s.2.2.2.2.2.2.2.1).toNat : Nat) : Int) = z.2.2.2.2.2.2.2.1 by omega]; exact h2)
  rw [show (z.2.2.2.2.2.2.2.1 - s.2.2.2.2.2.2.2.1).toNat + (y.2.2.2.2.2.2.2.1 - z.2.2.2.2.2.2.2.1).toNat = (y.2.2.2.2.2.2.2.1 - s.2.2.2.2.2.2.2.1).toNat by omega] at h4
  exact h4
theorem LSeg.nil (h : z.2.2.2.2.2.2.2.1 = s.2.2.2.2.2.2.2.1) : LSeg s z d d := by
  unfold LSeg
  rw [show (z.2.2.2.2.2.2.2.1 - s.2.2.2.2.2.2.2.1).toNat = 0 by omega]
  rfl
theorem LSeg.push {k v : Int} (hk : 14 ≤ k ∧ k ≤ 19) (hd : d ≤ 60) : LSeg s (pEmit k v s) d (d + 1) := by
  unfold LSeg
  have e1 : (pEmit k v s).2.2.2.2.2.2.2.1 - s.2.2.2.2.2.2.2.1 = 1 := by
    show s.2.2.2.2.2.2.2.1 + 1 - s.2.2.2.2.2.2.2.1 = 1
    omega
  have e2 : (pEmit k v s).2.2.2.2.2.2.2.2.2 (82 + 2 * s.2.2.2.2.2.2.2.1) = k := by
    unfold pEmit
    dsimp only
    rw [u2 (by omega), u1]
  rw [e1]
  show LRun (pEmit k v s).2.2.2.2.2.2.2.2.2 1 s.2.2.2.2.2.2.2.1 d (d + 1)
  rw [LRun, e2, if_neg (by omega), if_neg (by omega)]
  exact ⟨hk, hd, rfl⟩
theorem LSeg.not {v : Int} (hd : 1 ≤ d) : LSeg s (pEmit 13 v s) d d := by
  unfold LSeg
  have e1 : (pEmit 13 v s).2.2.2.2.2.2.2.1 - s.2.2.2.2.2.2.2.1 = 1 := by
    show s.2.2.2.2.2.2.2.1 + 1 - s.2.2.2.2.2.2.2.1 = 1
    omega
  have e2 : (pEmit 13 v s).2.2.2.2.2.2.2.2.2 (82 + 2 * s.2.2.2.2.2.2.2.1) = 13 := by
    unfold pEmit
    dsimp only
    rw [u2 (by omega), u1]
  rw [e1]
  show LRun (pEmit 13 v s).2.2.2.2.2.2.2.2.2 1 s.2.2.2.2.2.2.2.1 d d
  rw [LRun, e2, if_pos rfl]
  exact ⟨hd, rfl⟩
theorem LSeg.bin {k v : Int} (hk : k = 12 ∨ k = 11) (hd : 2 ≤ d) : LSeg s (pEmit k v s) d (d - 1) := by
  unfold LSeg
  have e1 : (pEmit k v s).2.2.2.2.2.2.2.1 - s.2.2.2.2.2.2.2.1 = 1 := by
    show s.2.2.2.2.2.2.2.1 + 1 - s.2.2.2.2.2.2.2.1 = 1
    omega
  have e2 : (pEmit k v s).2.2.2.2.2.2.2.2.2 (82 + 2 * s.2.2.2.2.2.2.2.1) = k := by
    unfold pEmit
    dsimp only
    rw [u2 (by omega), u1]
  rw [e1]
  show LRun (pEmit k v s).2.2.2.2.2.2.2.2.2 1 s.2.2.2.2.2.2.2.1 d (d - 1)
  rw [LRun, e2, if_neg (by omega), if_pos hk]
  exact ⟨hd, rfl⟩
theorem pq_emit {k v : Int} (h : PI n (pEmit k v s)) (hw : s.2.2.2.2.1 = 0) (hs : s.1 - 2 * s.2.2.2.2.2.2.2.1 ≤ s.1 - 2 * (s.2.2.2.2.2.2.2.1 + 1) + 2) : (∀ i : Int, i < 82 + 2 * s.2.2.2.2.2.2.2.1 → (pEmit k v s).2.2.2.2.2.2.2.2.2 i = s.2.2.2.2.2.2.2.2.2 i) ∧ s.2.2.2.2.2.2.2.1 ≤ (pEmit k v s).2.2.2.2.2.2.2.1 := by
  refine ⟨fun i hi => ?_, ?_⟩
  · unfold pEmit
    dsimp only
    rw [u2 (by omega), u2 (by omega)]
  · show s.2.2.2.2.2.2.2.1 ≤ s.2.2.2.2.2.2.2.1 + 1
    omega
/-- behind a piece, one step more -/
theorem LSeg.step {k v : Int} (q : s.2.2.2.2.2.2.2.1 ≤ z.2.2.2.2.2.2.2.1) (h : LSeg s z d e) (h2 : LSeg z (pEmit k v z) e g) : LSeg s (pEmit k v z) d g := by
  unfold LSeg at h h2 ⊢
  have fa : ∀ i : Int, i < 82 + 2 * z.2.2.2.2.2.2.2.1 → (pEmit k v z).2.2.2.2.2.2.2.2.2 i = z.2.2.2.2.2.2.2.2.2 i := fun i hi => by
    unfold pEmit
    dsimp only
    rw [u2 (by omega), u2 (by omega)]
  have fs : (pEmit k v z).2.2.2.2.2.2.2.1 = z.2.2.2.2.2.2.2.1 + 1 := rfl
  have h3 := LRun.cong (b := (pEmit k v z).2.2.2.2.2.2.2.2.2) _ _ _ h (fun j u w => fa _ (by omega))
  have h4 := LRun.app (g := ((pEmit k v z).2.2.2.2.2.2.2.1 - z.2.2.2.2.2.2.2.1).toNat) (e2 := g) _ _ _ h3 (by rw [show s.2.2.2.2.2.2.2.1 + (((z.2.2.2.2.2.2.2.1 - s.2.2.2.2.2.2.2.1).toNat : Nat) : Int) = z.2.2.2.2.2.2.2.1 by omega]; exact h2)
  rw [show (z.2.2.2.2.2.2.2.1 - s.2.2.2.2.2.2.2.1).toNat + ((pEmit k v z).2.2.2.2.2.2.2.1 - z.2.2.2.2.2.2.2.1).toNat = ((pEmit k v z).2.2.2.2.2.2.2.1 - s.2.2.2.2.2.2.2.1).toNat by omega] at h4
  exact h4
theorem em_w {k : Int} (h : (pEm k s).2.2.2.2.1 = 0) : s.2.2.2.2.1 = 0 ∧ pEm k s = pEmit k 0 s := by
  unfold pEm at h ⊢
  by_cases c : s.2.2.2.2.1 = 0
  · rw [if_pos c]
    exact ⟨c, rfl⟩
  · rw [if_neg c] at h
    exact absurd h c
theorem prs_0w (hT : RT M n) {f m : Nat} (hI : PI n s) (h : (prs (M 931) n f m s).2.2.2.2.1 = 0) : s.2.2.2.2.1 = 0 := by
  by_cases c : s.2.2.2.2.1 = 0
  · exact c
  · have q := (prs_ok hT f m s hI).2.2.2.2.2.2 c
    rw [q] at h
    exact absurd h c
end
