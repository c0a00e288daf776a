/-! WHAT STAYS: each part of the invariant by the places that it looks at -/
def rset (a : Int → Int) (j v : Int) : Int → Int := fun i => if i = j then v else a i
theorem rset_eq {a : Int → Int} {j v : Int} : rset a j v j = v := if_pos rfl
theorem rset_ne {a : Int → Int} {j v i : Int} (h : i ≠ j) : rset a j v i = a i := if_neg h
theorem jset_row {M : jM} {k j v k' : Int} (h : k' ≠ k) : jset M k j v k' = M k' := by
  funext i
  exact jset_k h
theorem jset_929 {M : jM} {j v : Int} : jset M 929 j v 929 = rset (M 929) j v := by
  funext i
  unfold jset rset
  by_cases h : i = j
  · rw [if_pos h, if_pos ⟨rfl, h⟩]
  · rw [if_neg h, if_neg (fun q => h q.2)]
theorem cv_set {M : jM} {b k j v : Int} : cv (jset M k j v) b = jset (cv M b) (k - b) j v := by
  funext k' j'
  unfold cv jset
  by_cases h : k' = k - b ∧ j' = j
  · rw [if_pos h, if_pos ⟨by omega, h.2⟩]
  · rw [if_neg h, if_neg (fun q => h ⟨by omega, q.2⟩)]
theorem av_0 {M : jM} : av M 0 = M 929 := by
  funext i
  unfold av
  rw [Int.zero_add]
theorem RCnt.fr {a a2 : Int → Int} (h : RCnt a) (e : ∀ i, i = 582 ∨ i = 643 ∨ i = 709 ∨ i = 1310 ∨ i = 1761 ∨ i = 3895 ∨ i = 708 ∨ i = 3608 ∨ i = 64 ∨ i = 32 → a2 i = a i) : RCnt a2 := by
  unfold RCnt at h ⊢
  rw [e 582 (by omega), e 643 (by omega), e 709 (by omega), e 1310 (by omega), e 1761 (by omega), e 3895 (by omega), e 708 (by omega), e 3608 (by omega), e 64 (by omega), e 32 (by omega)]
  exact h
theorem RLaw.fr {a a2 : Int → Int} {o o2 : Int} (h : RLaw a o) (e : ∀ i, 0 ≤ i → i < 31 → a2 (o2 + i) = a (o + i)) : RLaw a2 o2 := by
  have e1 : ∀ x i : Int, 0 ≤ x + i → x + i < 31 → a2 (o2 + x + i) = a (o + x + i) := fun x i h1 h2 => by rw [Int.add_assoc, Int.add_assoc]; exact e _ h1 h2
  have e0 : a2 o2 = a o := by have := e 0 (by omega) (by omega); rwa [Int.add_zero, Int.add_zero] at this
  obtain ⟨h1, h2, h3, h4⟩ := h
  refine ⟨by rw [e0]; exact h1, fun i a b => ?_, fun i j a b c => ?_, ?_⟩
  · rw [e0] at b
    rw [e1 1 i (by omega) (by omega), e1 9 i (by omega) (by omega), e1 17 i (by omega) (by omega)]
    exact h2 i a b
  · rw [e0] at c
    rw [e1 1 i (by omega) (by omega), e1 1 j (by omega) (by omega)]
    exact h3 i j a b c
  · rw [e 25 (by omega) (by omega), e 26 (by omega) (by omega), e 27 (by omega) (by omega), e 28 (by omega) (by omega), e 29 (by omega) (by omega), e 30 (by omega) (by omega)]
    exact h4
theorem RKind.fr {a a2 : Int → Int} (h : RKind a) (hn : a 582 ≤ 12) (e : ∀ i, 582 ≤ i → i < 643 → a2 i = a i) : RKind a2 := by
  intro k h0 h1
  rw [e 582 (by omega) (by omega)] at h1
  rw [e (583 + k) (by omega) (by omega), e (595 + k) (by omega) (by omega), e (607 + k) (by omega) (by omega), e (619 + k) (by omega) (by omega), e (631 + k) (by omega) (by omega)]
  exact h k h0 h1
theorem RPers.fr {a a2 : Int → Int} (h : RPers a) (hn : a 643 ≤ 16) (e : ∀ i, 643 ≤ i → i < 692 → a2 i = a i) (e2 : ∀ i, 3759 ≤ i → i < 3775 → a2 i = a i) : RPers a2 := by
  intro k h0 h1
  rw [e 643 (by omega) (by omega)] at h1
  rw [e (644 + k) (by omega) (by omega), e (660 + k) (by omega) (by omega), e (676 + k) (by omega) (by omega), e2 (3759 + k) (by omega) (by omega)]
  exact h k h0 h1
theorem RPled.fr {a a2 : Int → Int} (h : RPled a) (hn : a 709 ≤ 60) (e : ∀ i, 708 ≤ i → i < 1070 → a2 i = a i) (e2 : ∀ i, 1130 ≤ i → i < 1250 → a2 i = a i) (e3 : a 582 ≤ a2 582 ∧ a 643 ≤ a2 643 ∧ a 1761 ≤ a2 1761) : RPled a2 := by
  intro p h0 h1
  rw [e 709 (by omega) (by omega)] at h1
  have := h p h0 h1
  rw [e (710 + p) (by omega) (by omega), e (770 + p) (by omega) (by omega), e (830 + p) (by omega) (by omega), e (890 + p) (by omega) (by omega), e (950 + p) (by omega) (by omega), e (1010 + p) (by omega) (by omega), e2 (1130 + p) (by omega) (by omega), e2 (1190 + p) (by omega) (by omega), e 708 (by omega) (by omega)]
  omega
theorem RMade.fr {a a2 : Int → Int} (h : RMade a) (hn : a 709 ≤ 60) (e0 : a2 709 = a 709) (e : ∀ i, 1130 ≤ i → i < 1190 → a2 i = a i) : RMade a2 := by
  intro p q h0 h1 h2
  rw [e0] at h2
  rw [e _ (by omega) (by omega), e _ (by omega) (by omega)]
  exact h p q h0 h1 h2
theorem RTick.fr {a a2 : Int → Int} (h : RTick a) (hn : a 1310 ≤ 150) (e : ∀ i, 1310 ≤ i → i < 1761 → a2 i = a i) (e2 : ∀ i, 3609 ≤ i → i < 3759 → a2 i = a i) (e3 : a 709 ≤ a2 709 ∧ a 643 ≤ a2 643) : RTick a2 := by
  intro t h0 h1
  rw [e 1310 (by omega) (by omega)] at h1
  have := h t h0 h1
  rw [e (1311 + t) (by omega) (by omega), e (1461 + t) (by omega) (by omega), e (1611 + t) (by omega) (by omega), e2 (3609 + t) (by omega) (by omega)]
  omega
theorem RRack.fr {a a2 : Int → Int} (h : RRack a) (hn : a 1761 ≤ 10) (e : ∀ i, 1761 ≤ i → i < 1782 → a2 i = a i) : RRack a2 := by
  intro r h0 h1
  rw [e 1761 (by omega) (by omega)] at h1
  rw [e (1762 + r) (by omega) (by omega), e (1772 + r) (by omega) (by omega)]
  exact h r h0 h1
theorem RHand.fr {a a2 : Int → Int} (h : RHand a) (e : ∀ i, 3588 ≤ i → i < 3608 → a2 i = a i) : RHand a2 := by
  intro i h0 h1
  rw [e _ (by omega) (by omega)]
  exact h i h0 h1
theorem LWf.fr {a a2 : Int → Int} (e : ∀ i, 82 ≤ i → i < 582 → a2 i = a i) : ∀ (f : Nat) (i d : Int), 0 ≤ i → i + f ≤ 250 → LWf a f i d → LWf a2 f i d
  | 0, _, _, _, _, h => h
  | f + 1, i, d, h0, h1, h => by
    unfold LWf at h ⊢
    rw [e (82 + 2 * i) (by omega) (by omega)]
    have r1 := LWf.fr e f (i + 1) d (by omega) (by omega)
    have r2 := LWf.fr e f (i + 1) (d - 1) (by omega) (by omega)
    have r3 := LWf.fr e f (i + 1) (d + 1) (by omega) (by omega)
    split at h
    · rw [if_pos (by assumption)]; exact ⟨h.1, r1 h.2⟩
    · rw [if_neg (by assumption)]
      split at h
      · rw [if_pos (by assumption)]; exact ⟨h.1, r2 h.2⟩
      · rw [if_neg (by assumption)]; exact ⟨h.1, h.2.1, r3 h.2.2⟩
theorem RLook.fr {a a2 : Int → Int} (h : RLook a) (e : ∀ i, 65 ≤ i → i < 582 → a2 i = a i) : RLook a2 := by
  obtain ⟨h1, h2⟩ := h
  refine ⟨by rw [e 65 (by omega) (by omega)]; exact h1, fun k h0 hk => ?_⟩
  rw [e 65 (by omega) (by omega)] at hk
  have h3 := h2 k h0 hk
  rw [e (66 + k) (by omega) (by omega), e (74 + k) (by omega) (by omega)]
  exact ⟨h3.1, LWf.fr (fun i a b => e i (by omega) b) _ _ _ h3.1.1 (by omega) h3.2⟩
theorem CCnt.fr {c c2 : Int → Int → Int} {a a2 : Int → Int} (h : CCnt c a) (ec : ∀ j, c2 0 j = c 0 j) (e : ∀ i, i = 582 ∨ i = 643 ∨ i = 709 ∨ i = 1310 ∨ i = 1761 ∨ i = 3895 ∨ i = 708 ∨ i = 3608 ∨ i = 64 → a2 i = a i) : CCnt c2 a2 := by
  unfold CCnt at h ⊢
  simp only [ec]
  rw [e 582 (by omega), e 643 (by omega), e 709 (by omega), e 1310 (by omega), e 1761 (by omega), e 3895 (by omega), e 708 (by omega), e 3608 (by omega), e 64 (by omega)]
  exact h
theorem CLaw.fr {c c2 : Int → Int → Int} {a a2 : Int → Int} {k o n : Int} (h : CLaw c k a o n) (hr : RLaw a o) (hn : n ≤ 6) (ec : ∀ k' j, k ≤ k' → k' < k + 5 → c2 k' j = c k' j) (e : ∀ i, o ≤ i → i < o + 32 → a2 i = a i) : CLaw c2 k a2 o n := by
  obtain ⟨h1, h2, h3, h4⟩ := h
  have hu := hr.1
  refine ⟨by rw [ec _ _ (by omega) (by omega), e _ (by omega) (by omega)]; exact h1, by rw [ec _ _ (by omega) (by omega), e _ (by omega) (by omega)]; exact h2, fun i x y => ?_, fun i x y => ?_⟩
  · rw [e _ (by omega) (by omega)] at y
    rw [ec _ _ (by omega) (by omega), ec _ _ (by omega) (by omega), ec _ _ (by omega) (by omega), e _ (by omega) (by omega), e _ (by omega) (by omega), e _ (by omega) (by omega)]
    exact h3 i x y
  · rw [ec _ _ (by omega) (by omega), e _ (by omega) (by omega)]
    exact h4 i x y
theorem CKind.fr {c c2 : Int → Int → Int} {a a2 : Int → Int} (h : CKind c a) (hn : a 582 ≤ 12) (ec : ∀ k j, 55 ≤ k → k < 67 → c2 k j = c k j) (e : ∀ i, 582 ≤ i → i < 643 → a2 i = a i) : CKind c2 a2 := by
  intro k h0 h1
  rw [e 582 (by omega) (by omega)] at h1
  rw [e (583 + k) (by omega) (by omega), e (595 + k) (by omega) (by omega), e (607 + k) (by omega) (by omega), e (619 + k) (by omega) (by omega), e (631 + k) (by omega) (by omega)]
  simp only [ec (55 + k) _ (show 55 ≤ 55 + k by omega) (show 55 + k < 67 by omega)]
  exact h k h0 h1
theorem CPers.fr {c c2 : Int → Int → Int} {a a2 : Int → Int} (h : CPers c a) (hn : a 643 ≤ 16) (ec : ∀ k j, 67 ≤ k → k < 83 → c2 k j = c k j) (e : ∀ i, 643 ≤ i → i < 708 → a2 i = a i) (e2 : ∀ i, 3759 ≤ i → i < 3775 → a2 i = a i) : CPers c2 a2 := by
  intro k h0 h1
  rw [e 643 (by omega) (by omega)] at h1
  rw [e (644 + k) (by omega) (by omega), e (660 + k) (by omega) (by omega), e (676 + k) (by omega) (by omega), e (692 + k) (by omega) (by omega), e2 (3759 + k) (by omega) (by omega)]
  simp only [ec (67 + k) _ (show 67 ≤ 67 + k by omega) (show 67 + k < 83 by omega)]
  exact h k h0 h1
theorem CPled.fr {c c2 : Int → Int → Int} {a a2 : Int → Int} (h : CPled c a) (hn : a 709 ≤ 60) (ec : ∀ k j, 83 ≤ k → k < 143 → c2 k j = c k j) (e : ∀ i, 709 ≤ i → i < 1310 → a2 i = a i) (e2 : ∀ i, 3775 ≤ i → i < 3895 → a2 i = a i) : CPled c2 a2 := by
  intro p h0 h1
  rw [e 709 (by omega) (by omega)] at h1
  rw [e (710 + p) (by omega) (by omega), e (770 + p) (by omega) (by omega), e (830 + p) (by omega) (by omega), e (890 + p) (by omega) (by omega), e (950 + p) (by omega) (by omega), e (1010 + p) (by omega) (by omega), e (1070 + p) (by omega) (by omega), e (1130 + p) (by omega) (by omega), e (1190 + p) (by omega) (by omega), e (1250 + p) (by omega) (by omega), e2 (3775 + p) (by omega) (by omega), e2 (3835 + p) (by omega) (by omega)]
  simp only [ec (83 + p) _ (show 83 ≤ 83 + p by omega) (show 83 + p < 143 by omega)]
  exact h p h0 h1
theorem CTick.fr {c c2 : Int → Int → Int} {a a2 : Int → Int} (h : CTick c a) (hn : a 1310 ≤ 150) (ec : ∀ k j, 143 ≤ k → k < 293 → c2 k j = c k j) (e : ∀ i, 1310 ≤ i → i < 1761 → a2 i = a i) (e2 : ∀ i, 3609 ≤ i → i < 3759 → a2 i = a i) : CTick c2 a2 := by
  intro t h0 h1
  rw [e 1310 (by omega) (by omega)] at h1
  rw [e (1311 + t) (by omega) (by omega), e (1461 + t) (by omega) (by omega), e (1611 + t) (by omega) (by omega), e2 (3609 + t) (by omega) (by omega)]
  simp only [ec (143 + t) _ (show 143 ≤ 143 + t by omega) (show 143 + t < 293 by omega)]
  exact h t h0 h1
theorem CRack.fr {c c2 : Int → Int → Int} {a a2 : Int → Int} (h : CRack c a) (hn : a 1761 ≤ 10) (ec : ∀ k j, 20 ≤ k → k < 30 → c2 k j = c k j) (e : ∀ i, 1761 ≤ i → i < 1782 → a2 i = a i) : CRack c2 a2 := by
  intro r h0 h1
  rw [e 1761 (by omega) (by omega)] at h1
  rw [e (1762 + r) (by omega) (by omega), e (1772 + r) (by omega) (by omega)]
  simp only [ec (20 + r) _ (show 20 ≤ 20 + r by omega) (show 20 + r < 30 by omega)]
  exact h r h0 h1
theorem CBook.fr {c c2 : Int → Int → Int} {a a2 : Int → Int} (h : CBook c a) (ec : ∀ k j, 31 ≤ k → k < 37 → c2 k j = c k j) (e : ∀ i, 1782 ≤ i → i < 3588 → a2 i = a i) : CBook c2 a2 := by
  intro w h0 h1
  rw [e (1782 + w) (by omega) (by omega), e (2083 + w) (by omega) (by omega), e (2384 + w) (by omega) (by omega), e (2685 + w) (by omega) (by omega), e (2986 + w) (by omega) (by omega), e (3287 + w) (by omega) (by omega), ec 31 _ (by omega) (by omega), ec 32 _ (by omega) (by omega), ec 33 _ (by omega) (by omega), ec 34 _ (by omega) (by omega), ec 35 _ (by omega) (by omega), ec 36 _ (by omega) (by omega)]
  exact h w h0 h1
theorem CHand.fr {c c2 : Int → Int → Int} {a a2 : Int → Int} (h : CHand c a) (ec : ∀ k j, 38 ≤ k → k < 42 → c2 k j = c k j) (e : ∀ i, 3588 ≤ i → i < 3608 → a2 i = a i) : CHand c2 a2 := by
  intro k j h0 h1 h2 h3
  rw [e _ (by omega) (by omega), ec _ _ (by omega) (by omega)]
  exact h k j h0 h1 h2 h3
theorem CList.fr {c c2 : Int → Int → Int} {a a2 : Int → Int} (h : CList c a) (hn : a 3895 ≤ 12) (ec : ∀ k j, 43 ≤ k → k < 55 → c2 k j = c k j) (e : ∀ i, 3895 ≤ i → i < 3920 → a2 i = a i) : CList c2 a2 := by
  intro i h0 h1
  rw [e 3895 (by omega) (by omega)] at h1
  rw [e (3896 + i) (by omega) (by omega), e (3908 + i) (by omega) (by omega)]
  simp only [ec (43 + i) _ (show 43 ≤ 43 + i by omega) (show 43 + i < 55 by omega)]
  exact h i h0 h1
theorem CLook.fr {c c2 : Int → Int → Int} {a a2 : Int → Int} {k : Int} (h : CLook c k a) (hr : RLook a) (ec : ∀ k' j, k ≤ k' → k' < k + 4 → c2 k' j = c k' j) (e : ∀ i, 65 ≤ i → i < 582 → a2 i = a i) : CLook c2 k a2 := by
  obtain ⟨h1, h2, h3, h4, h5⟩ := h
  have hu := hr.1
  refine ⟨by rw [ec _ _ (by omega) (by omega), e _ (by omega) (by omega)]; exact h1, by rw [ec _ _ (by omega) (by omega)]; exact h2, by rw [ec _ _ (by omega) (by omega)]; exact h3, fun j x y => ?_, fun i x y => ?_⟩
  · rw [e _ (by omega) (by omega)] at y
    rw [ec _ _ (by omega) (by omega), ec _ _ (by omega) (by omega), ec _ _ (by omega) (by omega), e _ (by omega) (by omega), e _ (by omega) (by omega)]
    exact h4 j x y
  · rw [ec k 1 (by omega) (by omega)] at y
    rw [ec _ _ (by omega) (by omega), ec _ _ (by omega) (by omega), e _ (by omega) (by omega), e _ (by omega) (by omega)]
    exact h5 i x y
theorem RInv.fr {a a2 : Int → Int} (h : RInv a) (e : ∀ i, 0 ≤ i → i < 3920 → a2 i = a i) : RInv a2 := by
  obtain ⟨h1, h2, h3, h4, h5, h6, h7, h8, h9, h10, h11⟩ := h
  have hc := h1
  unfold RCnt at hc
  have el : ∀ lo hi : Int, 0 ≤ lo → hi ≤ 3920 → ∀ i, lo ≤ i → i < hi → a2 i = a i := fun lo hi x y i u v => e i (by omega) (by omega)
  exact ⟨h1.fr (fun i hi => e i (by omega) (by omega)), h2.fr (fun i u v => e _ (by omega) (by omega)), h3.fr (fun i u v => e _ (by omega) (by omega)), h4.fr (by omega) (el _ _ (by omega) (by omega)), h5.fr (by omega) (el _ _ (by omega) (by omega)) (el _ _ (by omega) (by omega)),
    h6.fr (by omega) (el _ _ (by omega) (by omega)) (el _ _ (by omega) (by omega)) (by rw [e 582 (by omega) (by omega), e 643 (by omega) (by omega), e 1761 (by omega) (by omega)]; omega), h7.fr (by omega) (e 709 (by omega) (by omega)) (el _ _ (by omega) (by omega)), h8.fr (by omega) (el _ _ (by omega) (by omega)) (el _ _ (by omega) (by omega)) (by rw [e 709 (by omega) (by omega), e 643 (by omega) (by omega)]; omega),
    h9.fr (by omega) (el _ _ (by omega) (by omega)), h10.fr (el _ _ (by omega) (by omega)), h11.fr (el _ _ (by omega) (by omega))⟩
theorem CInv.fr {c c2 : Int → Int → Int} {a a2 : Int → Int} (h : CInv c a) (hr : RInv a) (ec : ∀ k j, 0 ≤ k → k < 293 → c2 k j = c k j) (e : ∀ i, 0 ≤ i → i < 3920 → a2 i = a i) : CInv c2 a2 := by
  obtain ⟨h1, h2, h3, h4, h5, h6, h7, h8, h9, h10, h11, h12⟩ := h
  have hc := hr.1
  unfold RCnt at hc
  have el : ∀ lo hi : Int, 0 ≤ lo → hi ≤ 3920 → ∀ i, lo ≤ i → i < hi → a2 i = a i := fun lo hi x y i u v => e i (by omega) (by omega)
  have ek : ∀ lo hi : Int, 0 ≤ lo → hi ≤ 293 → ∀ k j, lo ≤ k → k < hi → c2 k j = c k j := fun lo hi x y k j u v => ec k j (by omega) (by omega)
  exact ⟨h1.fr (fun j => ec 0 j (by omega) (by omega)) (fun i hi => e i (by omega) (by omega)), h2.fr hr.2.1 (by omega) (ek _ _ (by omega) (by omega)) (el _ _ (by omega) (by omega)), h3.fr hr.2.2.1 (by omega) (ek _ _ (by omega) (by omega)) (el _ _ (by omega) (by omega)), h4.fr (by omega) (ek _ _ (by omega) (by omega)) (el _ _ (by omega) (by omega)), h5.fr (by omega) (ek _ _ (by omega) (by omega)) (el _ _ (by omega) (by omega)) (el _ _ (by omega) (by omega)),
    h6.fr (by omega) (ek _ _ (by omega) (by omega)) (el _ _ (by omega) (by omega)) (el _ _ (by omega) (by omega)), h7.fr (by omega) (ek _ _ (by omega) (by omega)) (el _ _ (by omega) (by omega)) (el _ _ (by omega) (by omega)), h8.fr (by omega) (ek _ _ (by omega) (by omega)) (el _ _ (by omega) (by omega)), h9.fr (ek _ _ (by omega) (by omega)) (el _ _ (by omega) (by omega)), h10.fr (ek _ _ (by omega) (by omega)) (el _ _ (by omega) (by omega)), h11.fr (by omega) (ek _ _ (by omega) (by omega)) (el _ _ (by omega) (by omega)), h12.fr hr.2.2.2.2.2.2.2.2.2.2 (ek _ _ (by omega) (by omega)) (el _ _ (by omega) (by omega))⟩
/-- only the live shop, the live row and what calls use for themselves have changed -/
def Live (M M2 : jM) : Prop := ∀ k j, ¬ (1 ≤ k ∧ k < 294) → ¬ (k = 929 ∧ 0 ≤ j ∧ j < 3920) → ¬ (903 ≤ k ∧ k < 928) → ¬ (933 ≤ k ∧ k < 946) → M2 k j = M k j
theorem Live.rf {M : jM} : Live M M := fun _ _ _ _ _ _ => rfl
theorem Live.c {M M2 : jM} (h : Live M M2) {k j v : Int} (hk : 1 ≤ k ∧ k < 294) : Live M (jset M2 k j v) := fun k' j' a b c d => by
  rw [jset_k (fun e => a (by rw [e]; exact hk))]
  exact h k' j' a b c d
theorem Live.r {M M2 : jM} (h : Live M M2) {j v : Int} (hj : 0 ≤ j ∧ j < 3920) : Live M (jset M2 929 j v) := fun k' j' a b c d => by
  have : jset M2 929 j v k' j' = M2 k' j' := if_neg (fun e => b ⟨e.1, by rw [e.2]; exact hj⟩)
  rw [this]
  exact h k' j' a b c d
theorem Live.s {M M2 : jM} (h : Live M M2) {k j v : Int} (hk : (903 ≤ k ∧ k < 928) ∨ (933 ≤ k ∧ k < 946)) : Live M (jset M2 k j v) := fun k' j' a b c d => by
  rw [jset_k (fun e => by rw [e] at c d; omega)]
  exact h k' j' a b c d
theorem Live.tr {M M2 M3 : jM} (h : Live M M2) (h2 : Live M2 M3) : Live M M3 := fun k j a b c d => by rw [h2 k j a b c d, h k j a b c d]
theorem Inv.live {M M2 : jM} (h : Inv M) (hl : Live M M2) (hR : RInv (M2 929)) (hC : CInv (cv M2 1) (M2 929)) : Inv M2 := by
  obtain ⟨h1, -, -, h4, h5, h6, h7⟩ := h
  have o : ∀ k j, (294 ≤ k ∧ k < 903) ∨ k = 928 ∨ (930 ≤ k ∧ k < 933) ∨ 946 ≤ k → M2 k j = M k j := fun k j hk => hl k j (by omega) (by omega) (by omega) (by omega)
  have o2 : ∀ j, 3920 ≤ j → M2 929 j = M 929 j := fun j hj => hl 929 j (by omega) (by omega) (by omega) (by omega)
  refine ⟨by rw [o _ _ (by omega)]; exact h1, hR, hC, ?_, ?_, ?_, ?_⟩
  · unfold ITape at h4 ⊢
    simp only [o 883 _ (by omega), o 928 _ (by omega), o 931 _ (by omega), o 884 _ (by omega)]
    exact h4
  · unfold IFault at h5 ⊢
    simp only [o 882 _ (by omega), o 928 _ (by omega), o 891 _ (by omega)]
    exact h5
  · intro r r0 r1
    simp only [o (895 + 2 * r) _ (show _ by omega), o 946 _ (by omega), o 947 _ (by omega), o (896 + 2 * r) _ (show _ by omega), o 948 _ (by omega)]
    exact h6 r r0 r1
  · intro q q0 q1
    have h8 := h7 q q0 q1
    rw [o 881 q (by omega), o 930 q (by omega)]
    refine ⟨h8.1, h8.2.1, fun h9 => ?_⟩
    have h10 := h8.2.2 h9
    exact ⟨h10.1.fr (fun i u v => o2 _ (by omega)), h10.2.fr h10.1 (fun k j u v => o _ j (by omega)) (fun i u v => o2 _ (by omega))⟩
