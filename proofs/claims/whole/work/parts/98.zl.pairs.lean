/-! PAIRS: text -/
theorem tx_inv {M Y : jM} (hI : Inv M) (ht : Y 928 0 = 0) (hu : Y 928 5 = 0) (h83 : Y 883 1 = 0) (hF : IFault Y) (hR : RInv (Y 929)) (hC : CInv (cv Y 1) (Y 929)) (o : ∀ k j, (294 ≤ k ∧ k ≤ 881) ∨ (895 ≤ k ∧ k < 903) ∨ k = 930 ∨ 946 ≤ k → Y k j = M k j) (o2 : ∀ j, 3920 ≤ j → Y 929 j = M 929 j) : Inv Y := by
  obtain ⟨h1, -, -, h4, h5, h6, h7⟩ := hI
  refine ⟨ht, hR, hC, ⟨by rw [h83, hu], by omega, fun i a b => by omega⟩, hF, ?_, ?_⟩
  · intro r r0 r1
    simp only [o (895 + 2 * r) _ (show _ by omega), o 946 _ (by omega), o 947 _ (by omega), o (896 + 2 * r) _ (show _ by omega), o 948 _ (by omega)]
    exact h6 r r0 r1
  · intro q q0 q1
    have h8 := h7 q q0 q1
    rw [o 881 q (by omega), o 930 q (by omega)]
    refine ⟨h8.1, h8.2.1, fun h9 => ?_⟩
    have h10 := h8.2.2 h9
    exact ⟨h10.1.fr (fun i u v => o2 _ (by omega)), h10.2.fr h10.1 (fun k j u v => o _ j (by omega)) (fun i u v => o2 _ (by omega))⟩
theorem tx_law {M Y : jM} {z : PS} (hI : Inv M) (hR0 : RLaw z.2.2.2.2.2.2.2.2.2 0) (l0 : Y 2 0 = z.2.2.2.2.2.2.2.2.2 0) (l5 : Y 2 5 = z.2.2.2.2.2.2.2.2.2 31) (l3 : ∀ i : Int, 0 ≤ i → i < z.2.2.2.2.2.2.2.2.2 0 → Y 3 i = z.2.2.2.2.2.2.2.2.2 (1 + i) ∧ Y 4 i = z.2.2.2.2.2.2.2.2.2 (9 + i) ∧ Y 5 i = z.2.2.2.2.2.2.2.2.2 (17 + i)) (l6 : ∀ i : Int, 0 ≤ i → i < 6 → Y 6 i = z.2.2.2.2.2.2.2.2.2 (25 + i)) (e1 : ∀ k j, (k < 2 ∨ 7 ≤ k) → (0 ≤ k ∧ k < 294) → Y k j = M k j) (e4 : ∀ j, (j < 0 ∨ 32 ≤ j) → Y 929 j = M 929 j) (e5 : ∀ j, 0 ≤ j → j < 32 → Y 929 j = z.2.2.2.2.2.2.2.2.2 j) : RInv (Y 929) ∧ CInv (cv Y 1) (Y 929) := by
  have hr1 := hR0.1
  have hn := hI.cr.rng
  refine ⟨⟨?_, ?_, ?_, ?_, ?_, ?_, ?_, ?_, ?_, ?_, ?_⟩, ⟨?_, ?_, ?_, ?_, ?_, ?_, ?_, ?_, ?_, ?_, ?_, ?_⟩⟩
  · exact hI.2.1.1.fr (fun i h => e4 i (by omega))
  · exact hR0.fr (fun i a b => by rw [Int.zero_add]; exact e5 i a (by omega))
  · exact hI.2.1.2.2.1.fr (fun i a b => e4 _ (by omega))
  · exact hI.2.1.2.2.2.1.fr (by omega) (fun i a b => e4 _ (by omega))
  · exact hI.2.1.2.2.2.2.1.fr (by omega) (fun i a b => e4 _ (by omega)) (fun i a b => e4 _ (by omega))
  · exact hI.2.1.2.2.2.2.2.1.fr (by omega) (fun i a b => e4 _ (by omega)) (fun i a b => e4 _ (by omega)) (by rw [e4 582 (by omega), e4 643 (by omega), e4 1761 (by omega)]; omega)
  · exact hI.2.1.2.2.2.2.2.2.1.fr (by omega) (e4 _ (by omega)) (fun i a b => e4 _ (by omega))
  · exact hI.2.1.2.2.2.2.2.2.2.1.fr (by omega) (fun i a b => e4 _ (by omega)) (fun i a b => e4 _ (by omega)) (by rw [e4 709 (by omega), e4 643 (by omega)]; omega)
  · exact hI.2.1.2.2.2.2.2.2.2.2.1.fr (by omega) (fun i a b => e4 _ (by omega))
  · exact hI.2.1.2.2.2.2.2.2.2.2.2.1.fr (fun i a b => e4 _ (by omega))
  · exact hI.2.1.2.2.2.2.2.2.2.2.2.2.fr (fun i a b => e4 _ (by omega))
  · exact hI.2.2.1.1.fr (fun j => e1 (1 + 0) j (by omega) (by omega)) (fun i h => e4 i (by omega))
  · have z0 : Y 929 0 = z.2.2.2.2.2.2.2.2.2 0 := e5 0 (by omega) (by omega)
    refine ⟨?_, ?_, fun i a b => ?_, fun i a b => ?_⟩
    · show Y (1 + 1) 0 = Y 929 0
      rw [show (1 : Int) + 1 = 2 by omega, l0, z0]
    · show Y (1 + 1) 5 = Y 929 (0 + 31)
      rw [show (1 : Int) + 1 = 2 by omega, show (0 : Int) + 31 = 31 by omega, l5, e5 31 (by omega) (by omega)]
    · rw [z0] at b
      show Y (1 + (1 + 1)) i = Y 929 (0 + 1 + i) ∧ Y (1 + (1 + 2)) i = Y 929 (0 + 9 + i) ∧ Y (1 + (1 + 3)) i = Y 929 (0 + 17 + i)
      rw [show (1 : Int) + (1 + 1) = 3 by omega, show (1 : Int) + (1 + 2) = 4 by omega, show (1 : Int) + (1 + 3) = 5 by omega, show (0 : Int) + 1 + i = 1 + i by omega, show (0 : Int) + 9 + i = 9 + i by omega, show (0 : Int) + 17 + i = 17 + i by omega, e5 _ (by omega) (by omega), e5 _ (by omega) (by omega), e5 _ (by omega) (by omega)]
      exact l3 i a b
    · show Y (1 + (1 + 4)) i = Y 929 (0 + 25 + i)
      rw [show (1 : Int) + (1 + 4) = 6 by omega, show (0 : Int) + 25 + i = 25 + i by omega, e5 _ (by omega) (by omega)]
      exact l6 i a b
  · exact hI.2.2.1.2.2.1.fr hI.2.1.2.2.1 (by omega) (fun k j a b => e1 (1 + k) j (by omega) (by omega)) (fun i a b => e4 _ (by omega))
  · exact hI.2.2.1.2.2.2.1.fr (by omega) (fun k j a b => e1 (1 + k) j (by omega) (by omega)) (fun i a b => e4 _ (by omega))
  · exact hI.2.2.1.2.2.2.2.1.fr (by omega) (fun k j a b => e1 (1 + k) j (by omega) (by omega)) (fun i a b => e4 _ (by omega)) (fun i a b => e4 _ (by omega))
  · exact hI.2.2.1.2.2.2.2.2.1.fr (by omega) (fun k j a b => e1 (1 + k) j (by omega) (by omega)) (fun i a b => e4 _ (by omega)) (fun i a b => e4 _ (by omega))
  · exact hI.2.2.1.2.2.2.2.2.2.1.fr (by omega) (fun k j a b => e1 (1 + k) j (by omega) (by omega)) (fun i a b => e4 _ (by omega)) (fun i a b => e4 _ (by omega))
  · exact hI.2.2.1.2.2.2.2.2.2.2.1.fr (by omega) (fun k j a b => e1 (1 + k) j (by omega) (by omega)) (fun i a b => e4 _ (by omega))
  · exact hI.2.2.1.2.2.2.2.2.2.2.2.1.fr (fun k j a b => e1 (1 + k) j (by omega) (by omega)) (fun i a b => e4 _ (by omega))
  · exact hI.2.2.1.2.2.2.2.2.2.2.2.2.1.fr (fun k j a b => e1 (1 + k) j (by omega) (by omega)) (fun i a b => e4 _ (by omega))
  · exact hI.2.2.1.2.2.2.2.2.2.2.2.2.2.1.fr (by omega) (fun k j a b => e1 (1 + k) j (by omega) (by omega)) (fun i a b => e4 _ (by omega))
  · exact hI.2.2.1.2.2.2.2.2.2.2.2.2.2.2.fr hI.2.1.2.2.2.2.2.2.2.2.2.2 (fun k j a b => e1 (1 + k) j (by omega) (by omega)) (fun i a b => e4 _ (by omega))
theorem tx_looks {M Y : jM} {z : PS} (hI : Inv M) (hs : 0 ≤ z.2.2.2.2.2.2.2.1 ∧ z.2.2.2.2.2.2.2.1 ≤ 250) (h8 : 0 ≤ z.2.2.2.2.2.2.2.2.2 65 ∧ z.2.2.2.2.2.2.2.2.2 65 ≤ 8) (hR0 : RLks z) (l0 : Y 12 0 = z.2.2.2.2.2.2.2.2.2 65) (l1 : Y 12 1 = z.2.2.2.2.2.2.2.1) (l2 : Y 13 0 = 0) (l3 : ∀ j : Int, 0 ≤ j → j < z.2.2.2.2.2.2.2.2.2 65 → Y 13 j = z.2.2.2.2.2.2.2.2.2 (66 + j) ∧ Y 13 (j + 1) = z.2.2.2.2.2.2.2.2.2 (74 + j)) (l4 : ∀ i : Int, 0 ≤ i → i < z.2.2.2.2.2.2.2.1 → Y 14 i = opC (z.2.2.2.2.2.2.2.2.2 (82 + 2 * i)) ∧ Y 15 i = z.2.2.2.2.2.2.2.2.2 (83 + 2 * i)) (e1 : ∀ k j, (k < 12 ∨ 16 ≤ k) → (0 ≤ k ∧ k < 294) → Y k j = M k j) (e4 : ∀ j, (j < 65 ∨ 582 ≤ j) → Y 929 j = M 929 j) (e5 : ∀ j, 65 ≤ j → j < 582 → Y 929 j = z.2.2.2.2.2.2.2.2.2 j) : RInv (Y 929) ∧ CInv (cv Y 1) (Y 929) := by
  have hn := hI.cr.rng
  have e65 : Y 929 65 = z.2.2.2.2.2.2.2.2.2 65 := e5 65 (by omega) (by omega)
  refine ⟨⟨?_, ?_, ?_, ?_, ?_, ?_, ?_, ?_, ?_, ?_, ?_⟩, ⟨?_, ?_, ?_, ?_, ?_, ?_, ?_, ?_, ?_, ?_, ?_, ?_⟩⟩
  · exact hI.2.1.1.fr (fun i h => e4 i (by omega))
  · exact hI.2.1.2.1.fr (fun i a b => e4 _ (by omega))
  · exact hI.2.1.2.2.1.fr (fun i a b => e4 _ (by omega))
  · exact hI.2.1.2.2.2.1.fr (by omega) (fun i a b => e4 _ (by omega))
  · exact hI.2.1.2.2.2.2.1.fr (by omega) (fun i a b => e4 _ (by omega)) (fun i a b => e4 _ (by omega))
  · exact hI.2.1.2.2.2.2.2.1.fr (by omega) (fun i a b => e4 _ (by omega)) (fun i a b => e4 _ (by omega)) (by rw [e4 582 (by omega), e4 643 (by omega), e4 1761 (by omega)]; omega)
  · exact hI.2.1.2.2.2.2.2.2.1.fr (by omega) (e4 _ (by omega)) (fun i a b => e4 _ (by omega))
  · exact hI.2.1.2.2.2.2.2.2.2.1.fr (by omega) (fun i a b => e4 _ (by omega)) (fun i a b => e4 _ (by omega)) (by rw [e4 709 (by omega), e4 643 (by omega)]; omega)
  · exact hI.2.1.2.2.2.2.2.2.2.2.1.fr (by omega) (fun i a b => e4 _ (by omega))
  · exact hI.2.1.2.2.2.2.2.2.2.2.2.1.fr (fun i a b => e4 _ (by omega))
  · refine ⟨by rw [e65]; exact h8, fun k a b => ?_⟩
    rw [e65] at b
    have q := hR0 k a b
    rw [e5 (66 + k) (by omega) (by omega), e5 (74 + k) (by omega) (by omega)]
    refine ⟨by omega, LRun.wf _ _ _ (LRun.cong _ _ _ q.2 (fun j u v => e5 _ (by omega) (by omega)))⟩
  · exact hI.2.2.1.1.fr (fun j => e1 (1 + 0) j (by omega) (by omega)) (fun i h => e4 i (by omega))
  · exact hI.2.2.1.2.1.fr hI.2.1.2.1 (by omega) (fun k j a b => e1 (1 + k) j (by omega) (by omega)) (fun i a b => e4 _ (by omega))
  · exact hI.2.2.1.2.2.1.fr hI.2.1.2.2.1 (by omega) (fun k j a b => e1 (1 + k) j (by omega) (by omega)) (fun i a b => e4 _ (by omega))
  · exact hI.2.2.1.2.2.2.1.fr (by omega) (fun k j a b => e1 (1 + k) j (by omega) (by omega)) (fun i a b => e4 _ (by omega))
  · exact hI.2.2.1.2.2.2.2.1.fr (by omega) (fun k j a b => e1 (1 + k) j (by omega) (by omega)) (fun i a b => e4 _ (by omega)) (fun i a b => e4 _ (by omega))
  · exact hI.2.2.1.2.2.2.2.2.1.fr (by omega) (fun k j a b => e1 (1 + k) j (by omega) (by omega)) (fun i a b => e4 _ (by omega)) (fun i a b => e4 _ (by omega))
  · exact hI.2.2.1.2.2.2.2.2.2.1.fr (by omega) (fun k j a b => e1 (1 + k) j (by omega) (by omega)) (fun i a b => e4 _ (by omega)) (fun i a b => e4 _ (by omega))
  · exact hI.2.2.1.2.2.2.2.2.2.2.1.fr (by omega) (fun k j a b => e1 (1 + k) j (by omega) (by omega)) (fun i a b => e4 _ (by omega))
  · exact hI.2.2.1.2.2.2.2.2.2.2.2.1.fr (fun k j a b => e1 (1 + k) j (by omega) (by omega)) (fun i a b => e4 _ (by omega))
  · exact hI.2.2.1.2.2.2.2.2.2.2.2.2.1.fr (fun k j a b => e1 (1 + k) j (by omega) (by omega)) (fun i a b => e4 _ (by omega))
  · exact hI.2.2.1.2.2.2.2.2.2.2.2.2.2.1.fr (by omega) (fun k j a b => e1 (1 + k) j (by omega) (by omega)) (fun i a b => e4 _ (by omega))
  · refine ⟨?_, ?_, ?_, fun j a b => ?_, fun i a b => ?_⟩
    · show Y (1 + 11) 0 = Y 929 65
      rw [show (1 : Int) + 11 = 12 by omega, l0, e65]
    · show Y (1 + (11 + 1)) 0 = 0
      rw [show (1 : Int) + (11 + 1) = 13 by omega, l2]
    · show 0 ≤ Y (1 + 11) 1 ∧ Y (1 + 11) 1 ≤ 250
      rw [show (1 : Int) + 11 = 12 by omega, l1]
      exact hs
    · rw [e65] at b
      show Y (1 + (11 + 1)) j = Y 929 (66 + j) ∧ Y (1 + (11 + 1)) (j + 1) = Y 929 (74 + j) ∧ Y 929 (74 + j) ≤ Y (1 + 11) 1
      have q := (hR0 j a b).1
      have q2 := l3 j a b
      rw [show (1 : Int) + (11 + 1) = 13 by omega, show (1 : Int) + 11 = 12 by omega, e5 (66 + j) (by omega) (by omega), e5 (74 + j) (by omega) (by omega), l1]
      exact ⟨q2.1, q2.2, q.2.2⟩
    · have b : i < Y (1 + 11) 1 := b
      rw [show (1 : Int) + 11 = 12 by omega, l1] at b
      show Y (1 + (11 + 2)) i = opC (Y 929 (82 + 2 * i)) ∧ Y (1 + (11 + 3)) i = Y 929 (83 + 2 * i)
      rw [show (1 : Int) + (11 + 2) = 14 by omega, show (1 : Int) + (11 + 3) = 15 by omega, e5 _ (by omega) (by omega), e5 _ (by omega) (by omega)]
      exact l4 i a b
theorem txZ_fr {M W : jM} {n what : Int} (e1 : W 931 = M 931) (e2 : W 928 = M 928) (e3 : W 932 = M 932) : txZ W n what = txZ M n what := by
  unfold txZ tx0 txA
  rw [e1, e2, e3]
theorem txZ_pi {M : jM} {n what : Int} (hM : CM M n) (hv : -2147483648 ≤ M 928 10 ∧ M 928 10 ≤ 2147483647) : PI n (txZ M n what) := by
  obtain ⟨Y, hT, e⟩ := hM.rt
  have q := pTop_ok (what := what) hT 500 _ (pc_next hM (pi_tx1 hM hv) rfl).1.1
  rw [e] at q
  exact q
theorem txZ_law {M : jM} {n : Int} (hM : CM M n) (hv : -2147483648 ≤ M 928 10 ∧ M 928 10 ≤ 2147483647) (hz : (txZ M n 0).2.2.2.2.1 = 0) : RLaw (txZ M n 0).2.2.2.2.2.2.2.2.2 0 := by
  obtain ⟨Y, hT, e⟩ := hM.rt
  have r0 : RLaw (pNext (M 931) n (tx1 M)).2.2.2.2.2.2.2.2.2 0 := by
    show RLaw (txA M) 0
    have f0 : txA M 0 = 0 := rfl
    refine ⟨by rw [f0]; omega, fun i a b => ?_, fun i j a b c => ?_, ?_⟩
    · rw [f0] at b
      omega
    · rw [f0] at c
      omega
    · have f1 : txA M (0 + 25) = 0 := rfl
      have f2 : txA M (0 + 26) = 0 := rfl
      have f3 : txA M (0 + 27) = 0 := rfl
      have f4 : txA M (0 + 28) = 52 := rfl
      have f5 : txA M (0 + 29) = 0 := rfl
      have f6 : txA M (0 + 30) = 2 := rfl
      rw [f1, f2, f3, f4, f5, f6]
      omega
  have q := top_law hT 500 _ (pc_next hM (pi_tx1 hM hv) rfl).1.1 r0
  rw [e] at q
  exact q hz
theorem txZ_looks {M : jM} {n : Int} (hM : CM M n) (hv : -2147483648 ≤ M 928 10 ∧ M 928 10 ≤ 2147483647) (hz : (txZ M n 1).2.2.2.2.1 = 0) : RLks (txZ M n 1) := by
  obtain ⟨Y, hT, e⟩ := hM.rt
  have r0 : RLks (pNext (M 931) n (tx1 M)) := fun k a b => by
    have b : k < txA M 65 := b
    have f0 : txA M 65 = 0 := rfl
    rw [f0] at b
    omega
  have q := top_look hT 500 _ (pc_next hM (pi_tx1 hM hv) rfl).1.1 rfl r0
  rw [e] at q
  exact q hz
theorem p_text {M : jM} (hI : Inv M) {what : Int} (hwhat : -2147483648 ≤ what ∧ what ≤ 2147483647) {n : Int} (hn : -2147483648 ≤ n ∧ n ≤ 2147483647) : jCt yX11_text cX11_text 4 (some .int) 44 [jR 0, jI what, jI n] M (fun z M1 => jCt yX12_text cX12_text 6 (some .int) 37 [jR 928, jI what, jI n] M1 (fun z2 M2 => z = z2 ∧ Inv M2)) := by
  have hT := hI.2.2.2.1
  have h91 := hI.2.2.2.2.1.2.2
  have hCM : 0 ≤ n ∧ n ≤ M 928 5 → CM M n := fun q => ⟨by have := hT.2.1; omega, fun i a b => hT.2.2 i a (by omega)⟩
  have hby : ∀ i : Int, 0 ≤ i → i < M 928 5 → 0 ≤ M 931 i ∧ M 931 i ≤ 255 := fun i a b => (hT.2.2 i a b).1
  refine c_text hI h91 hwhat hn (fun w => ?_) (fun w => ?_) (fun w hv W hW hz => ?_) (fun w0 w hv W hW hz hL => ?_) (fun w0 w hv W hW hz hK => ?_)
  · exact m_text hI.1 hwhat hn hT.2.1 hby (fun _ => ⟨rfl, hI⟩) (fun w2 => by omega) (fun w2 => by omega)
  · exact m_text hI.1 hwhat hn hT.2.1 hby (fun w2 => by omega) (fun _ => ⟨rfl, hI⟩) (fun w2 => by omega)
  · have f9 : W 928 = M 928 := hW.1 928 (by omega)
    have f1 : W 931 = M 931 := hW.1 931 (by omega)
    have fz : txZ W n what = txZ M n what := txZ_fr f1 f9 (hW.1 932 (by omega))
    refine m_text (by rw [f9]; exact hI.1) hwhat hn (by rw [f9]; exact hT.2.1) (by rw [f9, f1]; exact hby) (fun w2 => by omega) (fun w2 => by rw [f9] at w2; omega) (fun _ Y hY => ?_)
    rw [fz] at hY ⊢
    obtain ⟨y0, y1, y2, y3, y4, y5, y6⟩ := hY
    have e9 : Y 929 = M 929 := (y5 hz).trans (hW.1 929 (by omega))
    have oo : ∀ k, (k < 882 ∨ k = 884 ∨ 893 < k) → k ≠ 928 → k ≠ 929 → k ≠ 932 → Y k = M k := fun k a b c d => (y0 k b c d).trans (hW.1 k a)
    refine ⟨(if_pos hz).symm, tx_inv hI y1 y2 (by rw [y0 883 (by omega) (by omega) (by omega)]; exact hW.2.1.1) ?_ (by rw [e9]; exact hI.2.1) ?_ (fun k j a => by rw [oo k (by omega) (by omega) (by omega) (by omega)]) (fun j _ => by rw [e9])⟩
    · refine ⟨?_, ?_, ?_⟩
      · rw [y0 882 (by omega) (by omega) (by omega), y3]
        exact hW.2.2.2.2.1
      · rw [y0 882 (by omega) (by omega) (by omega), y4]
        exact hW.2.2.2.2.2
      · rw [y0 891 (by omega) (by omega) (by omega)]
        exact hW.2.1.2
    · rw [e9]
      exact hI.2.2.1.fr hI.2.1 (fun k j a b => by
        show Y (1 + k) j = M (1 + k) j
        rw [oo _ (by omega) (by omega) (by omega) (by omega)]) (fun i _ _ => rfl)
  · subst w0
    have hM := hCM w
    have hIz := txZ_pi (what := 0) hM hv
    have hRz := txZ_law hM hv hz
    have g : ∀ k, (k < 2 ∨ 7 ≤ k) → mv W (RLw 2) (2 - 885) k = W k := fun k a => funext fun j => mvLw_out (by omega)
    have f9 : mv W (RLw 2) (2 - 885) 928 = M 928 := (g 928 (by omega)).trans (hW.1 928 (by omega))
    have f1 : mv W (RLw 2) (2 - 885) 931 = M 931 := (g 931 (by omega)).trans (hW.1 931 (by omega))
    have fz : txZ (mv W (RLw 2) (2 - 885)) n 0 = txZ M n 0 := txZ_fr f1 f9 ((g 932 (by omega)).trans (hW.1 932 (by omega)))
    refine m_text (by rw [f9]; exact hI.1) hwhat hn (by rw [f9]; exact hT.2.1) (by rw [f9, f1]; exact hby) (fun w2 => by omega) (fun w2 => by rw [f9] at w2; omega) (fun _ Y hY => ?_)
    rw [fz] at hY ⊢
    obtain ⟨y0, y1, y2, y3, y4, y5, y6⟩ := hY
    have y7 := y6 hz
    have oo : ∀ k, (k < 2 ∨ 7 ≤ k) → (k < 882 ∨ k = 884 ∨ 893 < k) → k ≠ 928 → k ≠ 929 → k ≠ 932 → Y k = M k := fun k u a b c d => ((y0 k b c d).trans (g k u)).trans (hW.1 k a)
    have o8 : ∀ k, 882 ≤ k → k ≤ 893 → Y k = W k := fun k a b => (y0 k (by omega) (by omega) (by omega)).trans (g k (by omega))
    have om : ∀ k j, RLw 2 k j → Y k j = W (k + 883) j := fun k j u => by
      have b : 2 ≤ k ∧ k < 7 := by
        unfold RLw at u
        omega
      rw [y0 k (by omega) (by omega) (by omega), mv_in u, show k - (2 - 885) = k + 883 by omega]
    have e4 : ∀ j, (j < 0 ∨ 32 ≤ j) → Y 929 j = M 929 j := fun j u => by
      rw [y7 j, if_neg (by show ¬ (0 ≤ j ∧ j < 32); omega), g 929 (by omega), hW.1 929 (by omega)]
    have e5 : ∀ j, 0 ≤ j → j < 32 → Y 929 j = (txZ M n 0).2.2.2.2.2.2.2.2.2 j := fun j u v => by
      rw [y7 j, if_pos (by show 0 ≤ j ∧ j < 32; omega)]
    have r8 := hRz.1
    have hRC := tx_law (Y := Y) (z := txZ M n 0) hI hRz ((om 2 0 (by unfold RLw; omega)).trans hL.1) ((om 2 5 (by unfold RLw; omega)).trans hL.2.1) (fun i a b => by
      rw [om 3 i (by unfold RLw; omega), om 4 i (by unfold RLw; omega), om 5 i (by unfold RLw; omega)]
      exact hL.2.2.1 i a b) (fun i a b => by
      rw [om 6 i (by unfold RLw; omega)]
      exact hL.2.2.2.1 i a b) (fun k j a b => by rw [oo k a (by omega) (by omega) (by omega) (by omega)]) e4 e5
    refine ⟨?_, tx_inv hI y1 y2 (by rw [o8 883 (by omega) (by omega)]; exact hW.2.1.1) ?_ hRC.1 hRC.2 (fun k j a => by rw [oo k (by omega) (by omega) (by omega) (by omega) (by omega)]) (fun j a => e4 j (by omega))⟩
    · rw [txAns, if_neg (by omega), if_pos rfl]
    · refine ⟨?_, ?_, ?_⟩
      · rw [o8 882 (by omega) (by omega), y3]
        exact hW.2.2.2.2.1
      · rw [o8 882 (by omega) (by omega), y4]
        exact hW.2.2.2.2.2
      · rw [o8 891 (by omega) (by omega)]
        exact hW.2.1.2
  · subst w0
    have hM := hCM w
    have hIz := txZ_pi (what := 1) hM hv
    have hRz := txZ_looks hM hv hz
    have i8 := hIz.2.2.2.2.2.2.2.1
    have ist := hIz.2.2.2.2.1
    have ip := hIz.1
    have hn0 := hM.1
    have q := hK.2.2 hz
    have w1 : W 890 1 = (txZ M n 1).2.2.2.2.2.2.2.1 := q.2.1
    rw [w1]
    have g : ∀ k, (k < 12 ∨ 16 ≤ k) → mv W (RLk (txZ M n 1).2.2.2.2.2.2.2.1 12) (12 - 890) k = W k := fun k a => funext fun j => mvLk_out (by omega)
    have f9 : mv W (RLk (txZ M n 1).2.2.2.2.2.2.2.1 12) (12 - 890) 928 = M 928 := (g 928 (by omega)).trans (hW.1 928 (by omega))
    have f1 : mv W (RLk (txZ M n 1).2.2.2.2.2.2.2.1 12) (12 - 890) 931 = M 931 := (g 931 (by omega)).trans (hW.1 931 (by omega))
    have fz : txZ (mv W (RLk (txZ M n 1).2.2.2.2.2.2.2.1 12) (12 - 890)) n 1 = txZ M n 1 := txZ_fr f1 f9 ((g 932 (by omega)).trans (hW.1 932 (by omega)))
    refine m_text (by rw [f9]; exact hI.1) hwhat hn (by rw [f9]; exact hT.2.1) (by rw [f9, f1]; exact hby) (fun w2 => by omega) (fun w2 => by rw [f9] at w2; omega) (fun _ Y hY => ?_)
    rw [fz] at hY ⊢
    obtain ⟨y0, y1, y2, y3, y4, y5, y6⟩ := hY
    have y7 := y6 hz
    have oo : ∀ k, (k < 12 ∨ 16 ≤ k) → (k < 882 ∨ k = 884 ∨ 893 < k) → k ≠ 928 → k ≠ 929 → k ≠ 932 → Y k = M k := fun k u a b c d => ((y0 k b c d).trans (g k u)).trans (hW.1 k a)
    have o8 : ∀ k, 882 ≤ k → k ≤ 893 → Y k = W k := fun k a b => (y0 k (by omega) (by omega) (by omega)).trans (g k (by omega))
    have om : ∀ k j, RLk (txZ M n 1).2.2.2.2.2.2.2.1 12 k j → Y k j = W (k + 878) j := fun k j u => by
      have b : 12 ≤ k ∧ k < 16 := by
        unfold RLk at u
        omega
      rw [y0 k (by omega) (by omega) (by omega), mv_in u, show k - (12 - 890) = k + 878 by omega]
    have e4 : ∀ j, (j < 65 ∨ 582 ≤ j) → Y 929 j = M 929 j := fun j u => by
      rw [y7 j, if_neg (by show ¬ (65 ≤ j ∧ j < 582); omega), g 929 (by omega), hW.1 929 (by omega)]
    have e5 : ∀ j, 65 ≤ j → j < 582 → Y 929 j = (txZ M n 1).2.2.2.2.2.2.2.2.2 j := fun j u v => by
      rw [y7 j, if_pos (by show 65 ≤ j ∧ j < 582; omega)]
    have hRC := tx_looks (Y := Y) (z := txZ M n 1) hI (by omega) i8 hRz ((om 12 0 (by unfold RLk; omega)).trans q.1) ((om 12 1 (by unfold RLk; omega)).trans q.2.1) ((om 13 0 (by unfold RLk; omega)).trans q.2.2.1) (fun j a b => by
      rw [om 13 j (by unfold RLk; omega), om 13 (j + 1) (by unfold RLk; omega)]
      exact q.2.2.2.2.1 j a b) (fun i a b => by
      rw [om 14 i (by unfold RLk; omega), om 15 i (by unfold RLk; omega)]
      exact q.2.2.2.2.2 i a b) (fun k j a b => by rw [oo k a (by omega) (by omega) (by omega) (by omega)]) e4 e5
    refine ⟨?_, tx_inv hI y1 y2 (by rw [o8 883 (by omega) (by omega)]; exact hW.2.1.1) ?_ hRC.1 hRC.2 (fun k j a => by rw [oo k (by omega) (by omega) (by omega) (by omega) (by omega)]) (fun j a => e4 j (by omega))⟩
    · rw [txAns, if_neg (by omega), if_neg (by decide)]
    · refine ⟨?_, ?_, ?_⟩
      · rw [o8 882 (by omega) (by omega), y3]
        exact hW.2.2.2.2.1
      · rw [o8 882 (by omega) (by omega), y4]
        exact hW.2.2.2.2.2
      · rw [o8 891 (by omega) (by omega)]
        exact hW.2.1.2
