/-! TEXTS *** the law: rules told once, lines -/
section
variable {M : jM} {n : Int} {s z : PS}
theorem pk_o3 (hT : RT M n) (hI : PI n s) (hw : s.2.2.2.2.1 = 0) : PK n (pO1 s) (pO3 (M 931) n s) ∧ s.2.1 ≤ (pO3 (M 931) n s).1 := by
  have h0 : PI n (pO1 s) := hI
  have h1 := pk_next hT h0 hw
  have h2 : PK n (pO2 (M 931) n s) (pO3 (M 931) n s) := pk_read hT h1.1.1
  exact ⟨h1.1.trans h2, Int.le_trans h1.2 h2.2.1⟩
theorem o3_ok (h : (pO3 (M 931) n s).2.2.2.2.1 = 0) : oLo s.2.2.1 ≤ (pO2 (M 931) n s).2.2.2.1 ∧ (pO2 (M 931) n s).2.2.2.1 ≤ oHi s.2.2.1 ∧ pO3 (M 931) n s = pNext (M 931) n (pO2 (M 931) n s) := by
  have g := read_ok (M := M) (n := n) (s := pO2 (M 931) n s) h
  exact ⟨g.2.2.1, g.2.2.2.1, g.2.2.2.2⟩
theorem o4_a {i : Int} (hT : RT M n) (hI : PI n s) (hw : s.2.2.2.2.1 = 0) (h : i ≠ 25 + (s.2.2.1 - 3)) : (pO4 (M 931) n s).2.2.2.2.2.2.2.2.2 i = s.2.2.2.2.2.2.2.2.2 i := by
  have ea : (pO3 (M 931) n s).2.2.2.2.2.2.2.2.2 = s.2.2.2.2.2.2.2.2.2 := (pk_o3 hT hI hw).1.pa
  have e : (pO4 (M 931) n s).2.2.2.2.2.2.2.2.2 i = (pO3 (M 931) n s).2.2.2.2.2.2.2.2.2 i := by
    unfold pO4
    dsimp only
    exact u2 h
  rw [e, ea]
theorem o4_v : (pO4 (M 931) n s).2.2.2.2.2.2.2.2.2 (25 + (s.2.2.1 - 3)) = (pO2 (M 931) n s).2.2.2.1 := by
  unfold pO4
  dsimp only
  exact u1
theorem pg_once (hT : RT M n) (hI : PI n s) (hw : s.2.2.2.2.1 = 0) (hk : 3 ≤ s.2.2.1 ∧ s.2.2.1 ≤ 8) : PG n s (pOnce (M 931) n s) := by
  unfold pOnce
  split
  · have q := pk_fail (f := 4) (by omega) hI
    exact q.1.pg (fun e => absurd e q.2)
  · have k := pk_o3 hT hI hw
    obtain ⟨h1, h2, h3, h4, h5, h6, h7, h8, h9, h10⟩ := k.1.1
    have ea : (pO3 (M 931) n s).2.2.2.2.2.2.2.2.2 = s.2.2.2.2.2.2.2.2.2 := k.1.pa
    rw [ea] at h7 h8 h9 h10
    have e := k.1.2.2.2
    have f := fun i (h : i ≠ 25 + (s.2.2.1 - 3)) => o4_a (i := i) hT hI hw h
    refine ⟨⟨h1, h2, h3, h4, h5, h6, ?_, ?_, fun i a b => ?_, ?_⟩, k.1.2.1, fun _ => k.2, congrArg (fun z => z.1) e, congrArg (fun z => z.2.1) e, fun i hi => f i (by omega)⟩
    · rw [f 0 (by omega)]
      exact h7
    · rw [f 65 (by omega)]
      exact h8
    · rw [f 0 (by omega)] at b
      have q7 := hI.2.2.2.2.2.2.1
      rw [f (1 + i) (by omega)]
      exact h9 i a b
    · rw [f 31 (by omega)]
      exact h10
theorem o4_law (hT : RT M n) (hI : PI n s) (hw : s.2.2.2.2.1 = 0) (hk : 3 ≤ s.2.2.1 ∧ s.2.2.1 ≤ 8) (h : (pO3 (M 931) n s).2.2.2.2.1 = 0) (hR : RLaw s.2.2.2.2.2.2.2.2.2 0) : RLaw (pO4 (M 931) n s).2.2.2.2.2.2.2.2.2 0 := by
  have f := fun i (h : i ≠ 25 + (s.2.2.1 - 3)) => o4_a (i := i) hT hI hw h
  have g := o3_ok h
  have v := o4_v (M := M) (n := n) (s := s)
  have q7 := hI.2.2.2.2.2.2.1
  obtain ⟨r1, r2, r3, r4⟩ := hR
  refine ⟨by rw [f 0 (by omega)]; exact r1, fun i a b => ?_, fun i j a b c => ?_, ?_⟩
  · rw [f 0 (by omega)] at b
    rw [f _ (by omega), f _ (by omega), f _ (by omega)]
    exact r2 i a b
  · rw [f 0 (by omega)] at c
    rw [f _ (by omega), f _ (by omega)]
    exact r3 i j a b c
  · have hc : s.2.2.1 = 3 ∨ s.2.2.1 = 4 ∨ s.2.2.1 = 5 ∨ s.2.2.1 = 6 ∨ s.2.2.1 = 7 ∨ s.2.2.1 = 8 := by omega
    rcases hc with e | e | e | e | e | e
    · rw [e] at g v
      have hl : oLo 3 = 0 := by decide
      have hh : oHi 3 = 99 := by decide
      rw [hl, hh] at g
      refine ⟨by rw [show (0 : Int) + 25 = 25 + (3 - 3) by omega, v]; omega, by rw [f (0 + 26) (by omega)]; exact r4.2.1, by rw [f (0 + 27) (by omega)]; exact r4.2.2.1, by rw [f (0 + 28) (by omega)]; exact r4.2.2.2.1, by rw [f (0 + 29) (by omega)]; exact r4.2.2.2.2.1, by rw [f (0 + 30) (by omega)]; exact r4.2.2.2.2.2⟩
    · rw [e] at g v
      have hl : oLo 4 = 0 := by decide
      have hh : oHi 4 = 20 := by decide
      rw [hl, hh] at g
      refine ⟨by rw [f (0 + 25) (by omega)]; exact r4.1, by rw [show (0 : Int) + 26 = 25 + (4 - 3) by omega, v]; omega, by rw [f (0 + 27) (by omega)]; exact r4.2.2.1, by rw [f (0 + 28) (by omega)]; exact r4.2.2.2.1, by rw [f (0 + 29) (by omega)]; exact r4.2.2.2.2.1, by rw [f (0 + 30) (by omega)]; exact r4.2.2.2.2.2⟩
    · rw [e] at g v
      have hl : oLo 5 = 0 := by decide
      have hh : oHi 5 = 99 := by decide
      rw [hl, hh] at g
      refine ⟨by rw [f (0 + 25) (by omega)]; exact r4.1, by rw [f (0 + 26) (by omega)]; exact r4.2.1, by rw [show (0 : Int) + 27 = 25 + (5 - 3) by omega, v]; omega, by rw [f (0 + 28) (by omega)]; exact r4.2.2.2.1, by rw [f (0 + 29) (by omega)]; exact r4.2.2.2.2.1, by rw [f (0 + 30) (by omega)]; exact r4.2.2.2.2.2⟩
    · rw [e] at g v
      have hl : oLo 6 = 1 := by decide
      have hh : oHi 6 = 104 := by decide
      rw [hl, hh] at g
      refine ⟨by rw [f (0 + 25) (by omega)]; exact r4.1, by rw [f (0 + 26) (by omega)]; exact r4.2.1, by rw [f (0 + 27) (by omega)]; exact r4.2.2.1, by rw [show (0 : Int) + 28 = 25 + (6 - 3) by omega, v]; omega, by rw [f (0 + 29) (by omega)]; exact r4.2.2.2.2.1, by rw [f (0 + 30) (by omega)]; exact r4.2.2.2.2.2⟩
    · rw [e] at g v
      have hl : oLo 7 = 0 := by decide
      have hh : oHi 7 = 20 := by decide
      rw [hl, hh] at g
      refine ⟨by rw [f (0 + 25) (by omega)]; exact r4.1, by rw [f (0 + 26) (by omega)]; exact r4.2.1, by rw [f (0 + 27) (by omega)]; exact r4.2.2.1, by rw [f (0 + 28) (by omega)]; exact r4.2.2.2.1, by rw [show (0 : Int) + 29 = 25 + (7 - 3) by omega, v]; omega, by rw [f (0 + 30) (by omega)]; exact r4.2.2.2.2.2⟩
    · rw [e] at g v
      have hl : oLo 8 = 1 := by decide
      have hh : oHi 8 = 52 := by decide
      rw [hl, hh] at g
      refine ⟨by rw [f (0 + 25) (by omega)]; exact r4.1, by rw [f (0 + 26) (by omega)]; exact r4.2.1, by rw [f (0 + 27) (by omega)]; exact r4.2.2.1, by rw [f (0 + 28) (by omega)]; exact r4.2.2.2.1, by rw [f (0 + 29) (by omega)]; exact r4.2.2.2.2.1, by rw [show (0 : Int) + 30 = 25 + (8 - 3) by omega, v]; omega⟩
theorem pg_l1 (hT : RT M n) (hI : PI n s) (hw : s.2.2.2.2.1 = 0) : PG n s (pL1 (M 931) n s) := by
  unfold pL1
  split
  · exact pg_upto hT hI hw
  · split
    · rename_i h
      exact pg_once hT hI hw h.2
    · have q := pk_fail (f := 2) (by omega) hI
      exact q.1.pg (fun e => absurd e q.2)
theorem l1_law (hT : RT M n) (hI : PI n s) (hw : s.2.2.2.2.1 = 0) (h : (pL1 (M 931) n s).2.2.2.2.1 = 0) (hR : RLaw s.2.2.2.2.2.2.2.2.2 0) : RLaw (pL1 (M 931) n s).2.2.2.2.2.2.2.2.2 0 := by
  unfold pL1 at h ⊢
  split
  · rename_i c
    rw [if_pos c] at h
    unfold pUpto at h ⊢
    by_cases h0 : s.2.2.2.2.2.2.2.2.2 0 = 8
    · rw [if_pos h0] at h
      exact absurd h (pk_fail (f := 4) (by omega) hI).2
    · rw [if_neg h0] at h ⊢
      by_cases h6 : (pU6 (M 931) n s).2.2.2.2.1 ≠ 0
      · rw [if_pos h6] at h
        exact absurd h h6
      · rw [if_neg h6]
        exact u7_law hT hI hw h0 (by omega) hR
  · rename_i c
    rw [if_neg c] at h
    split
    · rename_i c2
      rw [if_pos c2] at h
      unfold pOnce at h ⊢
      split
      · rename_i c3
        rw [if_pos c3] at h
        exact absurd h (pk_fail (f := 4) (by omega) hI).2
      · rename_i c3
        rw [if_neg c3] at h
        exact o4_law hT hI hw c2.2 h hR
    · rename_i c2
      rw [if_neg c2] at h
      exact absurd h (pk_fail (f := 2) (by omega) hI).2
theorem line_a {i : Int} (h : i ≠ 31) : (pLine (M 931) n s).2.2.2.2.2.2.2.2.2 i = (pL2 (M 931) n s).2.2.2.2.2.2.2.2.2 i := by
  unfold pLine
  dsimp only
  exact u2 h
theorem line_31 : (pLine (M 931) n s).2.2.2.2.2.2.2.2.2 31 = (pL2 (M 931) n s).2.2.2.2.2.2.2.2.2 31 + 1 := by
  unfold pLine
  dsimp only
  exact u1
theorem pg_line (hT : RT M n) (hI : PI n s) (hw : s.2.2.2.2.1 = 0) (hk : s.2.2.1 ≠ 25) : PI n (pLine (M 931) n s) ∧ s.1 ≤ (pLine (M 931) n s).1 ∧ ((pLine (M 931) n s).2.2.2.2.1 = 0 → s.1 + 1 ≤ (pLine (M 931) n s).1) ∧ (pLine (M 931) n s).2.2.2.2.2.2.1 = s.2.2.2.2.2.2.1 ∧ (pLine (M 931) n s).2.2.2.2.2.2.2.1 = s.2.2.2.2.2.2.2.1 ∧ ∀ i : Int, 32 ≤ i → (pLine (M 931) n s).2.2.2.2.2.2.2.2.2 i = s.2.2.2.2.2.2.2.2.2 i := by
  have g := pg_l1 hT hI hw
  have k : PK n (pL1 (M 931) n s) (pL2 (M 931) n s) := pk_must hT g.1
  have ea : (pL2 (M 931) n s).2.2.2.2.2.2.2.2.2 = (pL1 (M 931) n s).2.2.2.2.2.2.2.2.2 := k.pa
  have e := k.2.2.2
  have hb := hI.2.1.2.2.2 hk
  have hw2 : (pL2 (M 931) n s).2.2.2.2.1 = 0 → (pL1 (M 931) n s).2.2.2.2.1 = 0 := fun h => (must_ok (M := M) (n := n) (s := pL1 (M 931) n s) h).1
  have hp1 : (pL2 (M 931) n s).2.2.2.2.1 = 0 → s.1 + 1 ≤ (pL2 (M 931) n s).1 := fun h => by
    have a := g.2.2.1 (hw2 h)
    have b := k.2.1
    omega
  have h31 := hI.2.2.2.2.2.2.2.2.2
  have hp := g.2.1
  have hp2 := k.2.1
  have e31 : (pL2 (M 931) n s).2.2.2.2.2.2.2.2.2 31 = s.2.2.2.2.2.2.2.2.2 31 := by rw [ea, g.2.2.2.2.2 31 (by omega)]
  obtain ⟨h1, h2, h3, h4, h5, h6, h7, h8, h9, h10⟩ := k.1
  refine ⟨⟨h1, h2, h3, h4, h5, h6, ?_, ?_, fun i a b => ?_, ?_⟩, Int.le_trans hp hp2, hp1, (congrArg (fun z => z.1) e).trans g.2.2.2.1, (congrArg (fun z => z.2.1) e).trans g.2.2.2.2.1, fun i hi => by rw [line_a (by omega), ea]; exact g.2.2.2.2.2 i (by omega)⟩
  · rw [line_a (by omega)]
    exact h7
  · rw [line_a (by omega)]
    exact h8
  · rw [line_a (by omega)] at b
    rw [line_a (by omega)]
    exact h9 i a b
  · rw [line_31, e31]
    show 0 ≤ s.2.2.2.2.2.2.2.2.2 31 + 1 ∧ ((pL2 (M 931) n s).2.2.2.2.1 = 0 → s.2.2.2.2.2.2.2.2.2 31 + 1 ≤ (pL2 (M 931) n s).1) ∧ s.2.2.2.2.2.2.2.2.2 31 + 1 ≤ (pL2 (M 931) n s).1 + 1
    have q := h31.2.1 hw
    refine ⟨by omega, fun h => ?_, by omega⟩
    have := hp1 h
    omega
theorem line_law (hT : RT M n) (hI : PI n s) (hw : s.2.2.2.2.1 = 0) (h : (pLine (M 931) n s).2.2.2.2.1 = 0) (hR : RLaw s.2.2.2.2.2.2.2.2.2 0) : RLaw (pLine (M 931) n s).2.2.2.2.2.2.2.2.2 0 := by
  have g := pg_l1 hT hI hw
  have k : PK n (pL1 (M 931) n s) (pL2 (M 931) n s) := pk_must hT g.1
  have ea : (pL2 (M 931) n s).2.2.2.2.2.2.2.2.2 = (pL1 (M 931) n s).2.2.2.2.2.2.2.2.2 := k.pa
  have r := l1_law hT hI hw (must_ok (M := M) (n := n) (s := pL1 (M 931) n s) h).1 hR
  have h7 := g.1.2.2.2.2.2.2.1
  have f : ∀ i, i ≠ 31 → (pLine (M 931) n s).2.2.2.2.2.2.2.2.2 i = (pL1 (M 931) n s).2.2.2.2.2.2.2.2.2 i := fun i hi => by rw [line_a hi, ea]
  obtain ⟨r1, r2, r3, r4⟩ := r
  refine ⟨by rw [f 0 (by omega)]; exact r1, fun i a b => ?_, fun i j a b c => ?_, ?_⟩
  · rw [f 0 (by omega)] at b
    rw [f _ (by omega), f _ (by omega), f _ (by omega)]
    exact r2 i a b
  · rw [f 0 (by omega)] at c
    rw [f _ (by omega), f _ (by omega)]
    exact r3 i j a b c
  · rw [f _ (by omega), f _ (by omega), f _ (by omega), f _ (by omega), f _ (by omega), f _ (by omega)]
    exact r4
end
theorem m_once {M : jM} {n : Int} {Q : Int → jM → Prop} (hT : RT M n) {s : PS} (hI : PI n s) (hw : s.2.2.2.2.1 = 0) (hk : 3 ≤ s.2.2.1 ∧ s.2.2.1 ≤ 8) (h : Q 0 (put M (pOnce (M 931) n s))) : jCt yX12_readOnce cX12_readOnce 5 none 8 [jR 928] (put M s) Q := by
  refine jCt_of mt_yX12_readOnce (Nat.le_of_ble_eq_true rfl) (fun X => ?_)
  have hn8 := hT.1
  have hn := hT.2.1
  have q0 := hI.rng
  have w0 := hI.2.2.2.1
  have p4 := (pk_fail (f := 4) (by omega) hI).2
  have hja := jand_1 (jshr s.2.2.2.2.2.2.2.2.1 (s.2.2.1 - 3))
  have hj := jor_in s.2.2.2.2.2.2.2.2.1 (jshl 1 (s.2.2.1 - 3))
  have hc : s.2.2.1 = 3 ∨ s.2.2.1 = 4 ∨ s.2.2.1 = 5 ∨ s.2.2.1 = 6 ∨ s.2.2.1 = 7 ∨ s.2.2.1 = 8 := by omega
  rcases hc with hkk | hkk | hkk | hkk | hkk | hkk
  · skip
    refine e_aload_n (i := 0) 1 dX12_readOnce_0 rfl rfl rfl ?_
    refine e_geti (j := 9) 4 fl_12_107 dX12_readOnce_1 at_928 (by decide) rfl rfl (fun r1 => ?_)
    simp (disch := omega) only [put_r6, put_w6, put_r7, put_w7, put_r9, put_w9, put_r10, put_w10, put_r11, put_w11, put_r12, put_w12, put_r13, put_w13, put_r14, put_w14, put_r15, put_w15, put_ra, put_r8, put_r0, put_rt, put_wa, u1, u2, hn8] at r1 ⊢
    refine e_iconst 5 dX12_readOnce_4 rfl ?_
    refine e_isub 6 dX12_readOnce_5 rfl ?_
    refine e_istore_n (i := 1) (lsn := [(1, _), (0, _)]) 7 dX12_readOnce_6 rfl (by decide) rfl rfl ?_
    refine e_aload_n (i := 0) 8 dX12_readOnce_7 rfl rfl rfl ?_
    refine e_geti (j := 15) 11 fl_12_153 dX12_readOnce_8 at_928 (by decide) rfl rfl (fun r8 => ?_)
    simp (disch := omega) only [put_r6, put_w6, put_r7, put_w7, put_r9, put_w9, put_r10, put_w10, put_r11, put_w11, put_r12, put_w12, put_r13, put_w13, put_r14, put_w14, put_r15, put_w15, put_ra, put_r8, put_r0, put_rt, put_wa, u1, u2, hn8] at r8 ⊢
    refine e_iload_n (i := 1) 12 dX12_readOnce_11 rfl rfl rfl ?_
    refine e_ishr 13 dX12_readOnce_12 rfl ?_
    refine e_iconst 14 dX12_readOnce_13 rfl ?_
    refine e_iand 15 dX12_readOnce_14 rfl ?_
    refine e_iconst 16 dX12_readOnce_15 rfl ?_
    refine e_icmp_ne 19 24 dX12_readOnce_16 (by omega) (by decide) (by decide) rfl (fun b16 => ?_) (fun b16 => ?_)
    · first
       | (exfalso; omega)
       | (skip
          refine e_aload_n (i := 0) 25 dX12_readOnce_24 rfl rfl rfl ?_
          refine e_geti (j := 11) 28 fl_12_123 dX12_readOnce_25 at_928 (by decide) rfl rfl (fun r25 => ?_)
          simp (disch := omega) only [put_r6, put_w6, put_r7, put_w7, put_r9, put_w9, put_r10, put_w10, put_r11, put_w11, put_r12, put_w12, put_r13, put_w13, put_r14, put_w14, put_r15, put_w15, put_ra, put_r8, put_r0, put_rt, put_wa, u1, u2, hn8] at r25 ⊢
          refine e_if_eq 31 32 dX12_readOnce_28 (by omega) (by decide) rfl (fun b28 => ?_) (fun b28 => ?_)
          · first
             | (exfalso; omega)
             | (skip
                refine e_aload_n (i := 0) 33 dX12_readOnce_32 rfl rfl rfl ?_
                refine e_dup 34 dX12_readOnce_33 rfl rfl ?_
                refine e_geti (j := 15) 37 fl_12_153 dX12_readOnce_34 at_928 (by decide) rfl rfl (fun r34 => ?_)
                simp (disch := omega) only [put_r6, put_w6, put_r7, put_w7, put_r9, put_w9, put_r10, put_w10, put_r11, put_w11, put_r12, put_w12, put_r13, put_w13, put_r14, put_w14, put_r15, put_w15, put_ra, put_r8, put_r0, put_rt, put_wa, u1, u2, hn8] at r34 ⊢
                refine e_iconst 38 dX12_readOnce_37 rfl ?_
                refine e_iload_n (i := 1) 39 dX12_readOnce_38 rfl rfl rfl ?_
                refine e_ishl 40 dX12_readOnce_39 rfl ?_
                refine e_ior 41 dX12_readOnce_40 rfl ?_
                refine e_puti (j := 15) 44 fl_12_153 dX12_readOnce_41 at_928 rfl rfl rfl (by omega) rfl ?_
                simp (disch := omega) only [put_r6, put_w6, put_r7, put_w7, put_r9, put_w9, put_r10, put_w10, put_r11, put_w11, put_r12, put_w12, put_r13, put_w13, put_r14, put_w14, put_r15, put_w15, put_ra, put_r8, put_r0, put_rt, put_wa, u1, u2, hn8]
                refine e_aload_n (i := 0) 45 dX12_readOnce_44 rfl rfl rfl ?_
                refine e_callV 48 mt_yX12_next mv_yX12_next wd_1393 (by decide) dX12_readOnce_45 at_928 jc_12 rfl rfl rfl (Nat.le_of_ble_eq_true rfl) (jroom (by decide)) rfl (m_next hT (by (try simp (disch := omega) only [put_r6, put_w6, put_r7, put_w7, put_r9, put_w9, put_r10, put_w10, put_r11, put_w11, put_r12, put_w12, put_r13, put_w13, put_r14, put_w14, put_r15, put_w15, put_ra, put_r8, put_r0, put_rt, put_wa, u1, u2, hn8]); omega) ?_)
                dsimp only [jpush]
                (try simp (disch := omega) only [put_r6, put_w6, put_r7, put_w7, put_r9, put_w9, put_r10, put_w10, put_r11, put_w11, put_r12, put_w12, put_r13, put_w13, put_r14, put_w14, put_r15, put_w15, put_ra, put_r8, put_r0, put_rt, put_wa, u1, u2, hn8])
                have hI1 : PI n (pO1 s) := hI
                obtain ⟨s2, e2⟩ : ∃ z, z = pO2 (M 931) n s := ⟨_, rfl⟩
                have g2 : pO2 (M 931) n s = s2 := e2.symm
                unfold pO2 pO1 at g2
                rw [g2]
                have k2 : PK n (pO1 s) s2 := by
                  rw [e2]
                  exact (pk_next hT hI1 hw).1
                have q2 := k2.1.rng
                have v2 := k2.1.2.2.1
                refine e_iload_n (i := 1) 49 dX12_readOnce_48 rfl rfl rfl ?_
                refine e_iconst 50 dX12_readOnce_49 rfl ?_
                refine e_icmp_eq 53 58 dX12_readOnce_50 (by omega) (by decide) (by decide) rfl (fun b50 => ?_) (fun b50 => ?_)
                · omega
                · first
                   | (exfalso; omega)
                   | (skip
                      refine e_iload_n (i := 1) 54 dX12_readOnce_53 rfl rfl rfl ?_
                      refine e_iconst 55 dX12_readOnce_54 rfl ?_
                      refine e_icmp_ne 58 62 dX12_readOnce_55 (by omega) (by decide) (by decide) rfl (fun b55 => ?_) (fun b55 => ?_)
                      · first
                         | (exfalso; omega)
                         | (skip
                            refine e_iconst 63 dX12_readOnce_62 rfl ?_
                            refine e_istore_n (i := 2) (lsn := [(2, _), (1, _), (0, _)]) 64 dX12_readOnce_63 rfl (by decide) rfl rfl ?_
                            refine e_iload_n (i := 1) 65 dX12_readOnce_64 rfl rfl rfl ?_
                            refine e_if_eq 68 73 dX12_readOnce_65 (by omega) (by decide) rfl (fun b65 => ?_) (fun b65 => ?_)
                            · first
                               | (exfalso; omega)
                               | (skip
                                  refine e_bipush 75 dX12_readOnce_73 (by decide) rfl ?_
                                  refine e_goto 100 dX12_readOnce_75 (by decide) ?_
                                  refine e_istore_n (i := 3) (lsn := [(3, _), (2, _), (1, _), (0, _)]) 101 dX12_readOnce_100 rfl (by decide) rfl rfl ?_
                                  refine e_aload_n (i := 0) 102 dX12_readOnce_101 rfl rfl rfl ?_
                                  refine e_iload_n (i := 2) 103 dX12_readOnce_102 rfl rfl rfl ?_
                                  refine e_iload_n (i := 3) 104 dX12_readOnce_103 rfl rfl rfl ?_
                                  refine e_callV 107 mt_yX12_reads mv_yX12_reads wd_1430 (by decide) dX12_readOnce_104 at_928 jc_12 rfl rfl rfl (Nat.le_of_ble_eq_true rfl) (jroom (by decide)) rfl (m_reads hT (by (try simp (disch := omega) only [put_r6, put_w6, put_r7, put_w7, put_r9, put_w9, put_r10, put_w10, put_r11, put_w11, put_r12, put_w12, put_r13, put_w13, put_r14, put_w14, put_r15, put_w15, put_ra, put_r8, put_r0, put_rt, put_wa, u1, u2, hn8]); omega) (by (try simp (disch := omega) only [put_r6, put_w6, put_r7, put_w7, put_r9, put_w9, put_r10, put_w10, put_r11, put_w11, put_r12, put_w12, put_r13, put_w13, put_r14, put_w14, put_r15, put_w15, put_ra, put_r8, put_r0, put_rt, put_wa, u1, u2, hn8]); omega) (by (try simp (disch := omega) only [put_r6, put_w6, put_r7, put_w7, put_r9, put_w9, put_r10, put_w10, put_r11, put_w11, put_r12, put_w12, put_r13, put_w13, put_r14, put_w14, put_r15, put_w15, put_ra, put_r8, put_r0, put_rt, put_wa, u1, u2, hn8]); omega) ?_)
                                  dsimp only [jpush]
                                  (try simp (disch := omega) only [put_r6, put_w6, put_r7, put_w7, put_r9, put_w9, put_r10, put_w10, put_r11, put_w11, put_r12, put_w12, put_r13, put_w13, put_r14, put_w14, put_r15, put_w15, put_ra, put_r8, put_r0, put_rt, put_wa, u1, u2, hn8])
                                  obtain ⟨s3, e3⟩ : ∃ z, z = pO3 (M 931) n s := ⟨_, rfl⟩
                                  have g3 : pRead (M 931) n 0 99 s2 = s3 := by
                                    rw [e3]
                                    rw [pO3, hkk, ← e2]
                                    rfl
                                  rw [g3]
                                  have k3 := pk_read (lo := 0) (hi := 99) hT k2.1
                                  rw [g3] at k3
                                  have q3 := k3.1.rng
                                  have v3 := k3.1.2.2.1
                                  have a3 : s3.2.2.2.2.2.2 = s2.2.2.2.2.2.2 := k3.2.2.2
                                  refine e_istore (lsn := [(4, _), (3, _), (2, _), (1, _), (0, _)]) 109 dX12_readOnce_107 (by decide) rfl rfl ?_
                                  refine e_aload_n (i := 0) 110 dX12_readOnce_109 rfl rfl rfl ?_
                                  refine e_getr (j := 4) 113 fl_12_24 dX12_readOnce_110 at_928 rfl rfl tp_928_4 rfl ?_
                                  refine e_bipush 115 dX12_readOnce_113 (by decide) rfl ?_
                                  refine e_iload_n (i := 1) 116 dX12_readOnce_115 rfl rfl rfl ?_
                                  refine e_iadd 117 dX12_readOnce_116 rfl ?_
                                  refine e_iload 119 dX12_readOnce_117 rfl rfl ?_
                                  refine e_iast 120 dX12_readOnce_119 ar_932 (by omega) (by omega) (by omega) rfl ?_
                                  refine e_vret dX12_readOnce_120 ?_
                                  first
                                    | (exfalso; omega)
                                    | (rw [pOnce, if_neg (by omega), pO4, ← e3, ← e2] at h
                                       simp (disch := omega) only [put_r6, put_w6, put_r7, put_w7, put_r9, put_w9, put_r10, put_w10, put_r11, put_w11, put_r12, put_w12, put_r13, put_w13, put_r14, put_w14, put_r15, put_w15, put_ra, put_r8, put_r0, put_rt, put_wa, u1, u2, hn8]
                                       exact h))
                            · omega)
                      · omega))
          · first
             | (exfalso; omega)
             | (skip
                refine e_vret dX12_readOnce_31 ?_
                first
                  | (exfalso; omega)
                  | (rw [pOnce, if_pos (by omega)] at h
                     exact h)))
    · first
       | (exfalso; omega)
       | (skip
          refine e_aload_n (i := 0) 20 dX12_readOnce_19 rfl rfl rfl ?_
          refine e_iconst 21 dX12_readOnce_20 rfl ?_
          refine e_callV 24 mt_yX12_fails mv_yX12_fails wd_1426 (by decide) dX12_readOnce_21 at_928 jc_12 rfl rfl rfl (Nat.le_of_ble_eq_true rfl) (jroom (by decide)) rfl (m_fails (by (try simp (disch := omega) only [put_r6, put_w6, put_r7, put_w7, put_r9, put_w9, put_r10, put_w10, put_r11, put_w11, put_r12, put_w12, put_r13, put_w13, put_r14, put_w14, put_r15, put_w15, put_ra, put_r8, put_r0, put_rt, put_wa, u1, u2, hn8]); omega) ?_)
          dsimp only [jpush]
          (try simp (disch := omega) only [put_r6, put_w6, put_r7, put_w7, put_r9, put_w9, put_r10, put_w10, put_r11, put_w11, put_r12, put_w12, put_r13, put_w13, put_r14, put_w14, put_r15, put_w15, put_ra, put_r8, put_r0, put_rt, put_wa, u1, u2, hn8])
          refine e_aload_n (i := 0) 25 dX12_readOnce_24 rfl rfl rfl ?_
          refine e_geti (j := 11) 28 fl_12_123 dX12_readOnce_25 at_928 (by decide) rfl rfl (fun r25 => ?_)
          simp (disch := omega) only [put_r6, put_w6, put_r7, put_w7, put_r9, put_w9, put_r10, put_w10, put_r11, put_w11, put_r12, put_w12, put_r13, put_w13, put_r14, put_w14, put_r15, put_w15, put_ra, put_r8, put_r0, put_rt, put_wa, u1, u2, hn8] at r25 ⊢
          refine e_if_eq 31 32 dX12_readOnce_28 (by omega) (by decide) rfl (fun b28 => ?_) (fun b28 => ?_)
          · first
             | (exfalso; omega)
             | (skip
                refine e_aload_n (i := 0) 33 dX12_readOnce_32 rfl rfl rfl ?_
                refine e_dup 34 dX12_readOnce_33 rfl rfl ?_
                refine e_geti (j := 15) 37 fl_12_153 dX12_readOnce_34 at_928 (by decide) rfl rfl (fun r34 => ?_)
                simp (disch := omega) only [put_r6, put_w6, put_r7, put_w7, put_r9, put_w9, put_r10, put_w10, put_r11, put_w11, put_r12, put_w12, put_r13, put_w13, put_r14, put_w14, put_r15, put_w15, put_ra, put_r8, put_r0, put_rt, put_wa, u1, u2, hn8] at r34 ⊢
                refine e_iconst 38 dX12_readOnce_37 rfl ?_
                refine e_iload_n (i := 1) 39 dX12_readOnce_38 rfl rfl rfl ?_
                refine e_ishl 40 dX12_readOnce_39 rfl ?_
                refine e_ior 41 dX12_readOnce_40 rfl ?_
                refine e_puti (j := 15) 44 fl_12_153 dX12_readOnce_41 at_928 rfl rfl rfl (by omega) rfl ?_
                simp (disch := omega) only [put_r6, put_w6, put_r7, put_w7, put_r9, put_w9, put_r10, put_w10, put_r11, put_w11, put_r12, put_w12, put_r13, put_w13, put_r14, put_w14, put_r15, put_w15, put_ra, put_r8, put_r0, put_rt, put_wa, u1, u2, hn8]
                refine e_aload_n (i := 0) 45 dX12_readOnce_44 rfl rfl rfl ?_
                refine e_callV 48 mt_yX12_next mv_yX12_next wd_1393 (by decide) dX12_readOnce_45 at_928 jc_12 rfl rfl rfl (Nat.le_of_ble_eq_true rfl) (jroom (by decide)) rfl (m_next hT (by (try simp (disch := omega) only [put_r6, put_w6, put_r7, put_w7, put_r9, put_w9, put_r10, put_w10, put_r11, put_w11, put_r12, put_w12, put_r13, put_w13, put_r14, put_w14, put_r15, put_w15, put_ra, put_r8, put_r0, put_rt, put_wa, u1, u2, hn8]); omega) ?_)
                dsimp only [jpush]
                (try simp (disch := omega) only [put_r6, put_w6, put_r7, put_w7, put_r9, put_w9, put_r10, put_w10, put_r11, put_w11, put_r12, put_w12, put_r13, put_w13, put_r14, put_w14, put_r15, put_w15, put_ra, put_r8, put_r0, put_rt, put_wa, u1, u2, hn8])
                have hI1 : PI n (pO1 s) := hI
                obtain ⟨s2, e2⟩ : ∃ z, z = pO2 (M 931) n s := ⟨_, rfl⟩
                have g2 : pO2 (M 931) n s = s2 := e2.symm
                unfold pO2 pO1 at g2
                rw [g2]
                have k2 : PK n (pO1 s) s2 := by
                  rw [e2]
                  exact (pk_next hT hI1 hw).1
                have q2 := k2.1.rng
                have v2 := k2.1.2.2.1
                refine e_iload_n (i := 1) 49 dX12_readOnce_48 rfl rfl rfl ?_
                refine e_iconst 50 dX12_readOnce_49 rfl ?_
                refine e_icmp_eq 53 58 dX12_readOnce_50 (by omega) (by decide) (by decide) rfl (fun b50 => ?_) (fun b50 => ?_)
                · omega
                · first
                   | (exfalso; omega)
                   | (skip
                      refine e_iload_n (i := 1) 54 dX12_readOnce_53 rfl rfl rfl ?_
                      refine e_iconst 55 dX12_readOnce_54 rfl ?_
                      refine e_icmp_ne 58 62 dX12_readOnce_55 (by omega) (by decide) (by decide) rfl (fun b55 => ?_) (fun b55 => ?_)
                      · first
                         | (exfalso; omega)
                         | (skip
                            refine e_iconst 63 dX12_readOnce_62 rfl ?_
                            refine e_istore_n (i := 2) (lsn := [(2, _), (1, _), (0, _)]) 64 dX12_readOnce_63 rfl (by decide) rfl rfl ?_
                            refine e_iload_n (i := 1) 65 dX12_readOnce_64 rfl rfl rfl ?_
                            refine e_if_eq 68 73 dX12_readOnce_65 (by omega) (by decide) rfl (fun b65 => ?_) (fun b65 => ?_)
                            · first
                               | (exfalso; omega)
                               | (skip
                                  refine e_bipush 75 dX12_readOnce_73 (by decide) rfl ?_
                                  refine e_goto 100 dX12_readOnce_75 (by decide) ?_
                                  refine e_istore_n (i := 3) (lsn := [(3, _), (2, _), (1, _), (0, _)]) 101 dX12_readOnce_100 rfl (by decide) rfl rfl ?_
                                  refine e_aload_n (i := 0) 102 dX12_readOnce_101 rfl rfl rfl ?_
                                  refine e_iload_n (i := 2) 103 dX12_readOnce_102 rfl rfl rfl ?_
                                  refine e_iload_n (i := 3) 104 dX12_readOnce_103 rfl rfl rfl ?_
                                  refine e_callV 107 mt_yX12_reads mv_yX12_reads wd_1430 (by decide) dX12_readOnce_104 at_928 jc_12 rfl rfl rfl (Nat.le_of_ble_eq_true rfl) (jroom (by decide)) rfl (m_reads hT (by (try simp (disch := omega) only [put_r6, put_w6, put_r7, put_w7, put_r9, put_w9, put_r10, put_w10, put_r11, put_w11, put_r12, put_w12, put_r13, put_w13, put_r14, put_w14, put_r15, put_w15, put_ra, put_r8, put_r0, put_rt, put_wa, u1, u2, hn8]); omega) (by (try simp (disch := omega) only [put_r6, put_w6, put_r7, put_w7, put_r9, put_w9, put_r10, put_w10, put_r11, put_w11, put_r12, put_w12, put_r13, put_w13, put_r14, put_w14, put_r15, put_w15, put_ra, put_r8, put_r0, put_rt, put_wa, u1, u2, hn8]); omega) (by (try simp (disch := omega) only [put_r6, put_w6, put_r7, put_w7, put_r9, put_w9, put_r10, put_w10, put_r11, put_w11, put_r12, put_w12, put_r13, put_w13, put_r14, put_w14, put_r15, put_w15, put_ra, put_r8, put_r0, put_rt, put_wa, u1, u2, hn8]); omega) ?_)
                                  dsimp only [jpush]
                                  (try simp (disch := omega) only [put_r6, put_w6, put_r7, put_w7, put_r9, put_w9, put_r10, put_w10, put_r11, put_w11, put_r12, put_w12, put_r13, put_w13, put_r14, put_w14, put_r15, put_w15, put_ra, put_r8, put_r0, put_rt, put_wa, u1, u2, hn8])
                                  obtain ⟨s3, e3⟩ : ∃ z, z = pO3 (M 931) n s := ⟨_, rfl⟩
                                  have g3 : pRead (M 931) n 0 99 s2 = s3 := by
                                    rw [e3]
                                    rw [pO3, hkk, ← e2]
                                    rfl
                                  rw [g3]
                                  have k3 := pk_read (lo := 0) (hi := 99) hT k2.1
                                  rw [g3] at k3
                                  have q3 := k3.1.rng
                                  have v3 := k3.1.2.2.1
                                  have a3 : s3.2.2.2.2.2.2 = s2.2.2.2.2.2.2 := k3.2.2.2
                                  refine e_istore (lsn := [(4, _), (3, _), (2, _), (1, _), (0, _)]) 109 dX12_readOnce_107 (by decide) rfl rfl ?_
                                  refine e_aload_n (i := 0) 110 dX12_readOnce_109 rfl rfl rfl ?_
                                  refine e_getr (j := 4) 113 fl_12_24 dX12_readOnce_110 at_928 rfl rfl tp_928_4 rfl ?_
                                  refine e_bipush 115 dX12_readOnce_113 (by decide) rfl ?_
                                  refine e_iload_n (i := 1) 116 dX12_readOnce_115 rfl rfl rfl ?_
                                  refine e_iadd 117 dX12_readOnce_116 rfl ?_
                                  refine e_iload 119 dX12_readOnce_117 rfl rfl ?_
                                  refine e_iast 120 dX12_readOnce_119 ar_932 (by omega) (by omega) (by omega) rfl ?_
                                  refine e_vret dX12_readOnce_120 ?_
                                  first
                                    | (exfalso; omega)
                                    | (rw [pOnce, if_neg (by omega), pO4, ← e3, ← e2] at h
                                       simp (disch := omega) only [put_r6, put_w6, put_r7, put_w7, put_r9, put_w9, put_r10, put_w10, put_r11, put_w11, put_r12, put_w12, put_r13, put_w13, put_r14, put_w14, put_r15, put_w15, put_ra, put_r8, put_r0, put_rt, put_wa, u1, u2, hn8]
                                       exact h))
                            · omega)
                      · omega))
          · first
             | (exfalso; omega)
             | (skip
                refine e_vret dX12_readOnce_31 ?_
                first
                  | (exfalso; omega)
                  | (rw [pOnce, if_pos (by omega)] at h
                     exact h)))
  · skip
    refine e_aload_n (i := 0) 1 dX12_readOnce_0 rfl rfl rfl ?_
    refine e_geti (j := 9) 4 fl_12_107 dX12_readOnce_1 at_928 (by decide) rfl rfl (fun r1 => ?_)
    simp (disch := omega) only [put_r6, put_w6, put_r7, put_w7, put_r9, put_w9, put_r10, put_w10, put_r11, put_w11, put_r12, put_w12, put_r13, put_w13, put_r14, put_w14, put_r15, put_w15, put_ra, put_r8, put_r0, put_rt, put_wa, u1, u2, hn8] at r1 ⊢
    refine e_iconst 5 dX12_readOnce_4 rfl ?_
    refine e_isub 6 dX12_readOnce_5 rfl ?_
    refine e_istore_n (i := 1) (lsn := [(1, _), (0, _)]) 7 dX12_readOnce_6 rfl (by decide) rfl rfl ?_
    refine e_aload_n (i := 0) 8 dX12_readOnce_7 rfl rfl rfl ?_
    refine e_geti (j := 15) 11 fl_12_153 dX12_readOnce_8 at_928 (by decide) rfl rfl (fun r8 => ?_)
    simp (disch := omega) only [put_r6, put_w6, put_r7, put_w7, put_r9, put_w9, put_r10, put_w10, put_r11, put_w11, put_r12, put_w12, put_r13, put_w13, put_r14, put_w14, put_r15, put_w15, put_ra, put_r8, put_r0, put_rt, put_wa, u1, u2, hn8] at r8 ⊢
    refine e_iload_n (i := 1) 12 dX12_readOnce_11 rfl rfl rfl ?_
    refine e_ishr 13 dX12_readOnce_12 rfl ?_
    refine e_iconst 14 dX12_readOnce_13 rfl ?_
    refine e_iand 15 dX12_readOnce_14 rfl ?_
    refine e_iconst 16 dX12_readOnce_15 rfl ?_
    refine e_icmp_ne 19 24 dX12_readOnce_16 (by omega) (by decide) (by decide) rfl (fun b16 => ?_) (fun b16 => ?_)
    · first
       | (exfalso; omega)
       | (skip
          refine e_aload_n (i := 0) 25 dX12_readOnce_24 rfl rfl rfl ?_
          refine e_geti (j := 11) 28 fl_12_123 dX12_readOnce_25 at_928 (by decide) rfl rfl (fun r25 => ?_)
          simp (disch := omega) only [put_r6, put_w6, put_r7, put_w7, put_r9, put_w9, put_r10, put_w10, put_r11, put_w11, put_r12, put_w12, put_r13, put_w13, put_r14, put_w14, put_r15, put_w15, put_ra, put_r8, put_r0, put_rt, put_wa, u1, u2, hn8] at r25 ⊢
          refine e_if_eq 31 32 dX12_readOnce_28 (by omega) (by decide) rfl (fun b28 => ?_) (fun b28 => ?_)
          · first
             | (exfalso; omega)
             | (skip
                refine e_aload_n (i := 0) 33 dX12_readOnce_32 rfl rfl rfl ?_
                refine e_dup 34 dX12_readOnce_33 rfl rfl ?_
                refine e_geti (j := 15) 37 fl_12_153 dX12_readOnce_34 at_928 (by decide) rfl rfl (fun r34 => ?_)
                simp (disch := omega) only [put_r6, put_w6, put_r7, put_w7, put_r9, put_w9, put_r10, put_w10, put_r11, put_w11, put_r12, put_w12, put_r13, put_w13, put_r14, put_w14, put_r15, put_w15, put_ra, put_r8, put_r0, put_rt, put_wa, u1, u2, hn8] at r34 ⊢
                refine e_iconst 38 dX12_readOnce_37 rfl ?_
                refine e_iload_n (i := 1) 39 dX12_readOnce_38 rfl rfl rfl ?_
                refine e_ishl 40 dX12_readOnce_39 rfl ?_
                refine e_ior 41 dX12_readOnce_40 rfl ?_
                refine e_puti (j := 15) 44 fl_12_153 dX12_readOnce_41 at_928 rfl rfl rfl (by omega) rfl ?_
                simp (disch := omega) only [put_r6, put_w6, put_r7, put_w7, put_r9, put_w9, put_r10, put_w10, put_r11, put_w11, put_r12, put_w12, put_r13, put_w13, put_r14, put_w14, put_r15, put_w15, put_ra, put_r8, put_r0, put_rt, put_wa, u1, u2, hn8]
                refine e_aload_n (i := 0) 45 dX12_readOnce_44 rfl rfl rfl ?_
                refine e_callV 48 mt_yX12_next mv_yX12_next wd_1393 (by decide) dX12_readOnce_45 at_928 jc_12 rfl rfl rfl (Nat.le_of_ble_eq_true rfl) (jroom (by decide)) rfl (m_next hT (by (try simp (disch := omega) only [put_r6, put_w6, put_r7, put_w7, put_r9, put_w9, put_r10, put_w10, put_r11, put_w11, put_r12, put_w12, put_r13, put_w13, put_r14, put_w14, put_r15, put_w15, put_ra, put_r8, put_r0, put_rt, put_wa, u1, u2, hn8]); omega) ?_)
                dsimp only [jpush]
                (try simp (disch := omega) only [put_r6, put_w6, put_r7, put_w7, put_r9, put_w9, put_r10, put_w10, put_r11, put_w11, put_r12, put_w12, put_r13, put_w13, put_r14, put_w14, put_r15, put_w15, put_ra, put_r8, put_r0, put_rt, put_wa, u1, u2, hn8])
                have hI1 : PI n (pO1 s) := hI
                obtain ⟨s2, e2⟩ : ∃ z, z = pO2 (M 931) n s := ⟨_, rfl⟩
                have g2 : pO2 (M 931) n s = s2 := e2.symm
                unfold pO2 pO1 at g2
                rw [g2]
                have k2 : PK n (pO1 s) s2 := by
                  rw [e2]
                  exact (pk_next hT hI1 hw).1
                have q2 := k2.1.rng
                have v2 := k2.1.2.2.1
                refine e_iload_n (i := 1) 49 dX12_readOnce_48 rfl rfl rfl ?_
                refine e_iconst 50 dX12_readOnce_49 rfl ?_
                refine e_icmp_eq 53 58 dX12_readOnce_50 (by omega) (by decide) (by decide) rfl (fun b50 => ?_) (fun b50 => ?_)
                · omega
                · first
                   | (exfalso; omega)
                   | (skip
                      refine e_iload_n (i := 1) 54 dX12_readOnce_53 rfl rfl rfl ?_
                      refine e_iconst 55 dX12_readOnce_54 rfl ?_
                      refine e_icmp_ne 58 62 dX12_readOnce_55 (by omega) (by decide) (by decide) rfl (fun b55 => ?_) (fun b55 => ?_)
                      · first
                         | (exfalso; omega)
                         | (skip
                            refine e_iconst 63 dX12_readOnce_62 rfl ?_
                            refine e_istore_n (i := 2) (lsn := [(2, _), (1, _), (0, _)]) 64 dX12_readOnce_63 rfl (by decide) rfl rfl ?_
                            refine e_iload_n (i := 1) 65 dX12_readOnce_64 rfl rfl rfl ?_
                            refine e_if_eq 68 73 dX12_readOnce_65 (by omega) (by decide) rfl (fun b65 => ?_) (fun b65 => ?_)
                            · omega
                            · first
                               | (exfalso; omega)
                               | (skip
                                  refine e_iload_n (i := 1) 69 dX12_readOnce_68 rfl rfl rfl ?_
                                  refine e_iconst 70 dX12_readOnce_69 rfl ?_
                                  refine e_icmp_ne 73 78 dX12_readOnce_70 (by omega) (by decide) (by decide) rfl (fun b70 => ?_) (fun b70 => ?_)
                                  · first
                                     | (exfalso; omega)
                                     | (skip
                                        refine e_iload_n (i := 1) 79 dX12_readOnce_78 rfl rfl rfl ?_
                                        refine e_iconst 80 dX12_readOnce_79 rfl ?_
                                        refine e_icmp_ne 83 88 dX12_readOnce_80 (by omega) (by decide) (by decide) rfl (fun b80 => ?_) (fun b80 => ?_)
                                        · first
                                           | (exfalso; omega)
                                           | (skip
                                              refine e_iload_n (i := 1) 89 dX12_readOnce_88 rfl rfl rfl ?_
                                              refine e_iconst 90 dX12_readOnce_89 rfl ?_
                                              refine e_icmp_ne 93 98 dX12_readOnce_90 (by omega) (by decide) (by decide) rfl (fun b90 => ?_) (fun b90 => ?_)
                                              · first
                                                 | (exfalso; omega)
                                                 | (skip
                                                    refine e_bipush 100 dX12_readOnce_98 (by decide) rfl ?_
                                                    refine e_istore_n (i := 3) (lsn := [(3, _), (2, _), (1, _), (0, _)]) 101 dX12_readOnce_100 rfl (by decide) rfl rfl ?_
                                                    refine e_aload_n (i := 0) 102 dX12_readOnce_101 rfl rfl rfl ?_
                                                    refine e_iload_n (i := 2) 103 dX12_readOnce_102 rfl rfl rfl ?_
                                                    refine e_iload_n (i := 3) 104 dX12_readOnce_103 rfl rfl rfl ?_
                                                    refine e_callV 107 mt_yX12_reads mv_yX12_reads wd_1430 (by decide) dX12_readOnce_104 at_928 jc_12 rfl rfl rfl (Nat.le_of_ble_eq_true rfl) (jroom (by decide)) rfl (m_reads hT (by (try simp (disch := omega) only [put_r6, put_w6, put_r7, put_w7, put_r9, put_w9, put_r10, put_w10, put_r11, put_w11, put_r12, put_w12, put_r13, put_w13, put_r14, put_w14, put_r15, put_w15, put_ra, put_r8, put_r0, put_rt, put_wa, u1, u2, hn8]); omega) (by (try simp (disch := omega) only [put_r6, put_w6, put_r7, put_w7, put_r9, put_w9, put_r10, put_w10, put_r11, put_w11, put_r12, put_w12, put_r13, put_w13, put_r14, put_w14, put_r15, put_w15, put_ra, put_r8, put_r0, put_rt, put_wa, u1, u2, hn8]); omega) (by (try simp (disch := omega) only [put_r6, put_w6, put_r7, put_w7, put_r9, put_w9, put_r10, put_w10, put_r11, put_w11, put_r12, put_w12, put_r13, put_w13, put_r14, put_w14, put_r15, put_w15, put_ra, put_r8, put_r0, put_rt, put_wa, u1, u2, hn8]); omega) ?_)
                                                    dsimp only [jpush]
                                                    (try simp (disch := omega) only [put_r6, put_w6, put_r7, put_w7, put_r9, put_w9, put_r10, put_w10, put_r11, put_w11, put_r12, put_w12, put_r13, put_w13, put_r14, put_w14, put_r15, put_w15, put_ra, put_r8, put_r0, put_rt, put_wa, u1, u2, hn8])
                                                    obtain ⟨s3, e3⟩ : ∃ z, z = pO3 (M 931) n s := ⟨_, rfl⟩
                                                    have g3 : pRead (M 931) n 0 20 s2 = s3 := by
                                                      rw [e3]
                                                      rw [pO3, hkk, ← e2]
                                                      rfl
                                                    rw [g3]
                                                    have k3 := pk_read (lo := 0) (hi := 20) hT k2.1
                                                    rw [g3] at k3
                                                    have q3 := k3.1.rng
                                                    have v3 := k3.1.2.2.1
                                                    have a3 : s3.2.2.2.2.2.2 = s2.2.2.2.2.2.2 := k3.2.2.2
                                                    refine e_istore (lsn := [(4, _), (3, _), (2, _), (1, _), (0, _)]) 109 dX12_readOnce_107 (by decide) rfl rfl ?_
                                                    refine e_aload_n (i := 0) 110 dX12_readOnce_109 rfl rfl rfl ?_
                                                    refine e_getr (j := 4) 113 fl_12_24 dX12_readOnce_110 at_928 rfl rfl tp_928_4 rfl ?_
                                                    refine e_bipush 115 dX12_readOnce_113 (by decide) rfl ?_
                                                    refine e_iload_n (i := 1) 116 dX12_readOnce_115 rfl rfl rfl ?_
                                                    refine e_iadd 117 dX12_readOnce_116 rfl ?_
                                                    refine e_iload 119 dX12_readOnce_117 rfl rfl ?_
                                                    refine e_iast 120 dX12_readOnce_119 ar_932 (by omega) (by omega) (by omega) rfl ?_
                                                    refine e_vret dX12_readOnce_120 ?_
                                                    first
                                                      | (exfalso; omega)
                                                      | (rw [pOnce, if_neg (by omega), pO4, ← e3, ← e2] at h
                                                         simp (disch := omega) only [put_r6, put_w6, put_r7, put_w7, put_r9, put_w9, put_r10, put_w10, put_r11, put_w11, put_r12, put_w12, put_r13, put_w13, put_r14, put_w14, put_r15, put_w15, put_ra, put_r8, put_r0, put_rt, put_wa, u1, u2, hn8]
                                                         exact h))
                                              · omega)
                                        · omega)
                                  · omega))
                      · omega))
          · first
             | (exfalso; omega)
             | (skip
                refine e_vret dX12_readOnce_31 ?_
                first
                  | (exfalso; omega)
                  | (rw [pOnce, if_pos (by omega)] at h
                     exact h)))
    · first
       | (exfalso; omega)
       | (skip
          refine e_aload_n (i := 0) 20 dX12_readOnce_19 rfl rfl rfl ?_
          refine e_iconst 21 dX12_readOnce_20 rfl ?_
          refine e_callV 24 mt_yX12_fails mv_yX12_fails wd_1426 (by decide) dX12_readOnce_21 at_928 jc_12 rfl rfl rfl (Nat.le_of_ble_eq_true rfl) (jroom (by decide)) rfl (m_fails (by (try simp (disch := omega) only [put_r6, put_w6, put_r7, put_w7, put_r9, put_w9, put_r10, put_w10, put_r11, put_w11, put_r12, put_w12, put_r13, put_w13, put_r14, put_w14, put_r15, put_w15, put_ra, put_r8, put_r0, put_rt, put_wa, u1, u2, hn8]); omega) ?_)
          dsimp only [jpush]
          (try simp (disch := omega) only [put_r6, put_w6, put_r7, put_w7, put_r9, put_w9, put_r10, put_w10, put_r11, put_w11, put_r12, put_w12, put_r13, put_w13, put_r14, put_w14, put_r15, put_w15, put_ra, put_r8, put_r0, put_rt, put_wa, u1, u2, hn8])
          refine e_aload_n (i := 0) 25 dX12_readOnce_24 rfl rfl rfl ?_
          refine e_geti (j := 11) 28 fl_12_123 dX12_readOnce_25 at_928 (by decide) rfl rfl (fun r25 => ?_)
          simp (disch := omega) only [put_r6, put_w6, put_r7, put_w7, put_r9, put_w9, put_r10, put_w10, put_r11, put_w11, put_r12, put_w12, put_r13, put_w13, put_r14, put_w14, put_r15, put_w15, put_ra, put_r8, put_r0, put_rt, put_wa, u1, u2, hn8] at r25 ⊢
          refine e_if_eq 31 32 dX12_readOnce_28 (by omega) (by decide) rfl (fun b28 => ?_) (fun b28 => ?_)
          · first
             | (exfalso; omega)
             | (skip
                refine e_aload_n (i := 0) 33 dX12_readOnce_32 rfl rfl rfl ?_
                refine e_dup 34 dX12_readOnce_33 rfl rfl ?_
                refine e_geti (j := 15) 37 fl_12_153 dX12_readOnce_34 at_928 (by decide) rfl rfl (fun r34 => ?_)
                simp (disch := omega) only [put_r6, put_w6, put_r7, put_w7, put_r9, put_w9, put_r10, put_w10, put_r11, put_w11, put_r12, put_w12, put_r13, put_w13, put_r14, put_w14, put_r15, put_w15, put_ra, put_r8, put_r0, put_rt, put_wa, u1, u2, hn8] at r34 ⊢
                refine e_iconst 38 dX12_readOnce_37 rfl ?_
                refine e_iload_n (i := 1) 39 dX12_readOnce_38 rfl rfl rfl ?_
                refine e_ishl 40 dX12_readOnce_39 rfl ?_
                refine e_ior 41 dX12_readOnce_40 rfl ?_
                refine e_puti (j := 15) 44 fl_12_153 dX12_readOnce_41 at_928 rfl rfl rfl (by omega) rfl ?_
                simp (disch := omega) only [put_r6, put_w6, put_r7, put_w7, put_r9, put_w9, put_r10, put_w10, put_r11, put_w11, put_r12, put_w12, put_r13, put_w13, put_r14, put_w14, put_r15, put_w15, put_ra, put_r8, put_r0, put_rt, put_wa, u1, u2, hn8]
                refine e_aload_n (i := 0) 45 dX12_readOnce_44 rfl rfl rfl ?_
                refine e_callV 48 mt_yX12_next mv_yX12_next wd_1393 (by decide) dX12_readOnce_45 at_928 jc_12 rfl rfl rfl (Nat.le_of_ble_eq_true rfl) (jroom (by decide)) rfl (m_next hT (by (try simp (disch := omega) only [put_r6, put_w6, put_r7, put_w7, put_r9, put_w9, put_r10, put_w10, put_r11, put_w11, put_r12, put_w12, put_r13, put_w13, put_r14, put_w14, put_r15, put_w15, put_ra, put_r8, put_r0, put_rt, put_wa, u1, u2, hn8]); omega) ?_)
                dsimp only [jpush]
                (try simp (disch := omega) only [put_r6, put_w6, put_r7, put_w7, put_r9, put_w9, put_r10, put_w10, put_r11, put_w11, put_r12, put_w12, put_r13, put_w13, put_r14, put_w14, put_r15, put_w15, put_ra, put_r8, put_r0, put_rt, put_wa, u1, u2, hn8])
                have hI1 : PI n (pO1 s) := hI
                obtain ⟨s2, e2⟩ : ∃ z, z = pO2 (M 931) n s := ⟨_, rfl⟩
                have g2 : pO2 (M 931) n s = s2 := e2.symm
                unfold pO2 pO1 at g2
                rw [g2]
                have k2 : PK n (pO1 s) s2 := by
                  rw [e2]
                  exact (pk_next hT hI1 hw).1
                have q2 := k2.1.rng
                have v2 := k2.1.2.2.1
                refine e_iload_n (i := 1) 49 dX12_readOnce_48 rfl rfl rfl ?_
                refine e_iconst 50 dX12_readOnce_49 rfl ?_
                refine e_icmp_eq 53 58 dX12_readOnce_50 (by omega) (by decide) (by decide) rfl (fun b50 => ?_) (fun b50 => ?_)
                · omega
                · first
                   | (exfalso; omega)
                   | (skip
                      refine e_iload_n (i := 1) 54 dX12_readOnce_53 rfl rfl rfl ?_
                      refine e_iconst 55 dX12_readOnce_54 rfl ?_
                      refine e_icmp_ne 58 62 dX12_readOnce_55 (by omega) (by decide) (by decide) rfl (fun b55 => ?_) (fun b55 => ?_)
                      · first
                         | (exfalso; omega)
                         | (skip
                            refine e_iconst 63 dX12_readOnce_62 rfl ?_
                            refine e_istore_n (i := 2) (lsn := [(2, _), (1, _), (0, _)]) 64 dX12_readOnce_63 rfl (by decide) rfl rfl ?_
                            refine e_iload_n (i := 1) 65 dX12_readOnce_64 rfl rfl rfl ?_
                            refine e_if_eq 68 73 dX12_readOnce_65 (by omega) (by decide) rfl (fun b65 => ?_) (fun b65 => ?_)
                            · omega
                            · first
                               | (exfalso; omega)
                               | (skip
                                  refine e_iload_n (i := 1) 69 dX12_readOnce_68 rfl rfl rfl ?_
                                  refine e_iconst 70 dX12_readOnce_69 rfl ?_
                                  refine e_icmp_ne 73 78 dX12_readOnce_70 (by omega) (by decide) (by decide) rfl (fun b70 => ?_) (fun b70 => ?_)
                                  · first
                                     | (exfalso; omega)
                                     | (skip
                                        refine e_iload_n (i := 1) 79 dX12_readOnce_78 rfl rfl rfl ?_
                                        refine e_iconst 80 dX12_readOnce_79 rfl ?_
                                        refine e_icmp_ne 83 88 dX12_readOnce_80 (by omega) (by decide) (by decide) rfl (fun b80 => ?_) (fun b80 => ?_)
                                        · first
                                           | (exfalso; omega)
                                           | (skip
                                              refine e_iload_n (i := 1) 89 dX12_readOnce_88 rfl rfl rfl ?_
                                              refine e_iconst 90 dX12_readOnce_89 rfl ?_
                                              refine e_icmp_ne 93 98 dX12_readOnce_90 (by omega) (by decide) (by decide) rfl (fun b90 => ?_) (fun b90 => ?_)
                                              · first
                                                 | (exfalso; omega)
                                                 | (skip
                                                    refine e_bipush 100 dX12_readOnce_98 (by decide) rfl ?_
                                                    refine e_istore_n (i := 3) (lsn := [(3, _), (2, _), (1, _), (0, _)]) 101 dX12_readOnce_100 rfl (by decide) rfl rfl ?_
                                                    refine e_aload_n (i := 0) 102 dX12_readOnce_101 rfl rfl rfl ?_
                                                    refine e_iload_n (i := 2) 103 dX12_readOnce_102 rfl rfl rfl ?_
                                                    refine e_iload_n (i := 3) 104 dX12_readOnce_103 rfl rfl rfl ?_
                                                    refine e_callV 107 mt_yX12_reads mv_yX12_reads wd_1430 (by decide) dX12_readOnce_104 at_928 jc_12 rfl rfl rfl (Nat.le_of_ble_eq_true rfl) (jroom (by decide)) rfl (m_reads hT (by (try simp (disch := omega) only [put_r6, put_w6, put_r7, put_w7, put_r9, put_w9, put_r10, put_w10, put_r11, put_w11, put_r12, put_w12, put_r13, put_w13, put_r14, put_w14, put_r15, put_w15, put_ra, put_r8, put_r0, put_rt, put_wa, u1, u2, hn8]); omega) (by (try simp (disch := omega) only [put_r6, put_w6, put_r7, put_w7, put_r9, put_w9, put_r10, put_w10, put_r11, put_w11, put_r12, put_w12, put_r13, put_w13, put_r14, put_w14, put_r15, put_w15, put_ra, put_r8, put_r0, put_rt, put_wa, u1, u2, hn8]); omega) (by (try simp (disch := omega) only [put_r6, put_w6, put_r7, put_w7, put_r9, put_w9, put_r10, put_w10, put_r11, put_w11, put_r12, put_w12, put_r13, put_w13, put_r14, put_w14, put_r15, put_w15, put_ra, put_r8, put_r0, put_rt, put_wa, u1, u2, hn8]); omega) ?_)
                                                    dsimp only [jpush]
                                                    (try simp (disch := omega) only [put_r6, put_w6, put_r7, put_w7, put_r9, put_w9, put_r10, put_w10, put_r11, put_w11, put_r12, put_w12, put_r13, put_w13, put_r14, put_w14, put_r15, put_w15, put_ra, put_r8, put_r0, put_rt, put_wa, u1, u2, hn8])
                                                    obtain ⟨s3, e3⟩ : ∃ z, z = pO3 (M 931) n s := ⟨_, rfl⟩
                                                    have g3 : pRead (M 931) n 0 20 s2 = s3 := by
                                                      rw [e3]
                                                      rw [pO3, hkk, ← e2]
                                                      rfl
                                                    rw [g3]
                                                    have k3 := pk_read (lo := 0) (hi := 20) hT k2.1
                                                    rw [g3] at k3
                                                    have q3 := k3.1.rng
                                                    have v3 := k3.1.2.2.1
                                                    have a3 : s3.2.2.2.2.2.2 = s2.2.2.2.2.2.2 := k3.2.2.2
                                                    refine e_istore (lsn := [(4, _), (3, _), (2, _), (1, _), (0, _)]) 109 dX12_readOnce_107 (by decide) rfl rfl ?_
                                                    refine e_aload_n (i := 0) 110 dX12_readOnce_109 rfl rfl rfl ?_
                                                    refine e_getr (j := 4) 113 fl_12_24 dX12_readOnce_110 at_928 rfl rfl tp_928_4 rfl ?_
                                                    refine e_bipush 115 dX12_readOnce_113 (by decide) rfl ?_
                                                    refine e_iload_n (i := 1) 116 dX12_readOnce_115 rfl rfl rfl ?_
                                                    refine e_iadd 117 dX12_readOnce_116 rfl ?_
                                                    refine e_iload 119 dX12_readOnce_117 rfl rfl ?_
                                                    refine e_iast 120 dX12_readOnce_119 ar_932 (by omega) (by omega) (by omega) rfl ?_
                                                    refine e_vret dX12_readOnce_120 ?_
                                                    first
                                                      | (exfalso; omega)
                                                      | (rw [pOnce, if_neg (by omega), pO4, ← e3, ← e2] at h
                                                         simp (disch := omega) only [put_r6, put_w6, put_r7, put_w7, put_r9, put_w9, put_r10, put_w10, put_r11, put_w11, put_r12, put_w12, put_r13, put_w13, put_r14, put_w14, put_r15, put_w15, put_ra, put_r8, put_r0, put_rt, put_wa, u1, u2, hn8]
                                                         exact h))
                                              · omega)
                                        · omega)
                                  · omega))
                      · omega))
          · first
             | (exfalso; omega)
             | (skip
                refine e_vret dX12_readOnce_31 ?_
                first
                  | (exfalso; omega)
                  | (rw [pOnce, if_pos (by omega)] at h
                     exact h)))
  · skip
    refine e_aload_n (i := 0) 1 dX12_readOnce_0 rfl rfl rfl ?_
    refine e_geti (j := 9) 4 fl_12_107 dX12_readOnce_1 at_928 (by decide) rfl rfl (fun r1 => ?_)
    simp (disch := omega) only [put_r6, put_w6, put_r7, put_w7, put_r9, put_w9, put_r10, put_w10, put_r11, put_w11, put_r12, put_w12, put_r13, put_w13, put_r14, put_w14, put_r15, put_w15, put_ra, put_r8, put_r0, put_rt, put_wa, u1, u2, hn8] at r1 ⊢
    refine e_iconst 5 dX12_readOnce_4 rfl ?_
    refine e_isub 6 dX12_readOnce_5 rfl ?_
    refine e_istore_n (i := 1) (lsn := [(1, _), (0, _)]) 7 dX12_readOnce_6 rfl (by decide) rfl rfl ?_
    refine e_aload_n (i := 0) 8 dX12_readOnce_7 rfl rfl rfl ?_
    refine e_geti (j := 15) 11 fl_12_153 dX12_readOnce_8 at_928 (by decide) rfl rfl (fun r8 => ?_)
    simp (disch := omega) only [put_r6, put_w6, put_r7, put_w7, put_r9, put_w9, put_r10, put_w10, put_r11, put_w11, put_r12, put_w12, put_r13, put_w13, put_r14, put_w14, put_r15, put_w15, put_ra, put_r8, put_r0, put_rt, put_wa, u1, u2, hn8] at r8 ⊢
    refine e_iload_n (i := 1) 12 dX12_readOnce_11 rfl rfl rfl ?_
    refine e_ishr 13 dX12_readOnce_12 rfl ?_
    refine e_iconst 14 dX12_readOnce_13 rfl ?_
    refine e_iand 15 dX12_readOnce_14 rfl ?_
    refine e_iconst 16 dX12_readOnce_15 rfl ?_
    refine e_icmp_ne 19 24 dX12_readOnce_16 (by omega) (by decide) (by decide) rfl (fun b16 => ?_) (fun b16 => ?_)
    · first
       | (exfalso; omega)
       | (skip
          refine e_aload_n (i := 0) 25 dX12_readOnce_24 rfl rfl rfl ?_
          refine e_geti (j := 11) 28 fl_12_123 dX12_readOnce_25 at_928 (by decide) rfl rfl (fun r25 => ?_)
          simp (disch := omega) only [put_r6, put_w6, put_r7, put_w7, put_r9, put_w9, put_r10, put_w10, put_r11, put_w11, put_r12, put_w12, put_r13, put_w13, put_r14, put_w14, put_r15, put_w15, put_ra, put_r8, put_r0, put_rt, put_wa, u1, u2, hn8] at r25 ⊢
          refine e_if_eq 31 32 dX12_readOnce_28 (by omega) (by decide) rfl (fun b28 => ?_) (fun b28 => ?_)
          · first
             | (exfalso; omega)
             | (skip
                refine e_aload_n (i := 0) 33 dX12_readOnce_32 rfl rfl rfl ?_
                refine e_dup 34 dX12_readOnce_33 rfl rfl ?_
                refine e_geti (j := 15) 37 fl_12_153 dX12_readOnce_34 at_928 (by decide) rfl rfl (fun r34 => ?_)
                simp (disch := omega) only [put_r6, put_w6, put_r7, put_w7, put_r9, put_w9, put_r10, put_w10, put_r11, put_w11, put_r12, put_w12, put_r13, put_w13, put_r14, put_w14, put_r15, put_w15, put_ra, put_r8, put_r0, put_rt, put_wa, u1, u2, hn8] at r34 ⊢
                refine e_iconst 38 dX12_readOnce_37 rfl ?_
                refine e_iload_n (i := 1) 39 dX12_readOnce_38 rfl rfl rfl ?_
                refine e_ishl 40 dX12_readOnce_39 rfl ?_
                refine e_ior 41 dX12_readOnce_40 rfl ?_
                refine e_puti (j := 15) 44 fl_12_153 dX12_readOnce_41 at_928 rfl rfl rfl (by omega) rfl ?_
                simp (disch := omega) only [put_r6, put_w6, put_r7, put_w7, put_r9, put_w9, put_r10, put_w10, put_r11, put_w11, put_r12, put_w12, put_r13, put_w13, put_r14, put_w14, put_r15, put_w15, put_ra, put_r8, put_r0, put_rt, put_wa, u1, u2, hn8]
                refine e_aload_n (i := 0) 45 dX12_readOnce_44 rfl rfl rfl ?_
                refine e_callV 48 mt_yX12_next mv_yX12_next wd_1393 (by decide) dX12_readOnce_45 at_928 jc_12 rfl rfl rfl (Nat.le_of_ble_eq_true rfl) (jroom (by decide)) rfl (m_next hT (by (try simp (disch := omega) only [put_r6, put_w6, put_r7, put_w7, put_r9, put_w9, put_r10, put_w10, put_r11, put_w11, put_r12, put_w12, put_r13, put_w13, put_r14, put_w14, put_r15, put_w15, put_ra, put_r8, put_r0, put_rt, put_wa, u1, u2, hn8]); omega) ?_)
                dsimp only [jpush]
                (try simp (disch := omega) only [put_r6, put_w6, put_r7, put_w7, put_r9, put_w9, put_r10, put_w10, put_r11, put_w11, put_r12, put_w12, put_r13, put_w13, put_r14, put_w14, put_r15, put_w15, put_ra, put_r8, put_r0, put_rt, put_wa, u1, u2, hn8])
                have hI1 : PI n (pO1 s) := hI
                obtain ⟨s2, e2⟩ : ∃ z, z = pO2 (M 931) n s := ⟨_, rfl⟩
                have g2 : pO2 (M 931) n s = s2 := e2.symm
                unfold pO2 pO1 at g2
                rw [g2]
                have k2 : PK n (pO1 s) s2 := by
                  rw [e2]
                  exact (pk_next hT hI1 hw).1
                have q2 := k2.1.rng
                have v2 := k2.1.2.2.1
                refine e_iload_n (i := 1) 49 dX12_readOnce_48 rfl rfl rfl ?_
                refine e_iconst 50 dX12_readOnce_49 rfl ?_
                refine e_icmp_eq 53 58 dX12_readOnce_50 (by omega) (by decide) (by decide) rfl (fun b50 => ?_) (fun b50 => ?_)
                · omega
                · first
                   | (exfalso; omega)
                   | (skip
                      refine e_iload_n (i := 1) 54 dX12_readOnce_53 rfl rfl rfl ?_
                      refine e_iconst 55 dX12_readOnce_54 rfl ?_
                      refine e_icmp_ne 58 62 dX12_readOnce_55 (by omega) (by decide) (by decide) rfl (fun b55 => ?_) (fun b55 => ?_)
                      · first
                         | (exfalso; omega)
                         | (skip
                            refine e_iconst 63 dX12_readOnce_62 rfl ?_
                            refine e_istore_n (i := 2) (lsn := [(2, _), (1, _), (0, _)]) 64 dX12_readOnce_63 rfl (by decide) rfl rfl ?_
                            refine e_iload_n (i := 1) 65 dX12_readOnce_64 rfl rfl rfl ?_
                            refine e_if_eq 68 73 dX12_readOnce_65 (by omega) (by decide) rfl (fun b65 => ?_) (fun b65 => ?_)
                            · omega
                            · first
                               | (exfalso; omega)
                               | (skip
                                  refine e_iload_n (i := 1) 69 dX12_readOnce_68 rfl rfl rfl ?_
                                  refine e_iconst 70 dX12_readOnce_69 rfl ?_
                                  refine e_icmp_ne 73 78 dX12_readOnce_70 (by omega) (by decide) (by decide) rfl (fun b70 => ?_) (fun b70 => ?_)
                                  · omega
                                  · first
                                     | (exfalso; omega)
                                     | (skip
                                        refine e_bipush 75 dX12_readOnce_73 (by decide) rfl ?_
                                        refine e_goto 100 dX12_readOnce_75 (by decide) ?_
                                        refine e_istore_n (i := 3) (lsn := [(3, _), (2, _), (1, _), (0, _)]) 101 dX12_readOnce_100 rfl (by decide) rfl rfl ?_
                                        refine e_aload_n (i := 0) 102 dX12_readOnce_101 rfl rfl rfl ?_
                                        refine e_iload_n (i := 2) 103 dX12_readOnce_102 rfl rfl rfl ?_
                                        refine e_iload_n (i := 3) 104 dX12_readOnce_103 rfl rfl rfl ?_
                                        refine e_callV 107 mt_yX12_reads mv_yX12_reads wd_1430 (by decide) dX12_readOnce_104 at_928 jc_12 rfl rfl rfl (Nat.le_of_ble_eq_true rfl) (jroom (by decide)) rfl (m_reads hT (by (try simp (disch := omega) only [put_r6, put_w6, put_r7, put_w7, put_r9, put_w9, put_r10, put_w10, put_r11, put_w11, put_r12, put_w12, put_r13, put_w13, put_r14, put_w14, put_r15, put_w15, put_ra, put_r8, put_r0, put_rt, put_wa, u1, u2, hn8]); omega) (by (try simp (disch := omega) only [put_r6, put_w6, put_r7, put_w7, put_r9, put_w9, put_r10, put_w10, put_r11, put_w11, put_r12, put_w12, put_r13, put_w13, put_r14, put_w14, put_r15, put_w15, put_ra, put_r8, put_r0, put_rt, put_wa, u1, u2, hn8]); omega) (by (try simp (disch := omega) only [put_r6, put_w6, put_r7, put_w7, put_r9, put_w9, put_r10, put_w10, put_r11, put_w11, put_r12, put_w12, put_r13, put_w13, put_r14, put_w14, put_r15, put_w15, put_ra, put_r8, put_r0, put_rt, put_wa, u1, u2, hn8]); omega) ?_)
                                        dsimp only [jpush]
                                        (try simp (disch := omega) only [put_r6, put_w6, put_r7, put_w7, put_r9, put_w9, put_r10, put_w10, put_r11, put_w11, put_r12, put_w12, put_r13, put_w13, put_r14, put_w14, put_r15, put_w15, put_ra, put_r8, put_r0, put_rt, put_wa, u1, u2, hn8])
                                        obtain ⟨s3, e3⟩ : ∃ z, z = pO3 (M 931) n s := ⟨_, rfl⟩
                                        have g3 : pRead (M 931) n 0 99 s2 = s3 := by
                                          rw [e3]
                                          rw [pO3, hkk, ← e2]
                                          rfl
                                        rw [g3]
                                        have k3 := pk_read (lo := 0) (hi := 99) hT k2.1
                                        rw [g3] at k3
                                        have q3 := k3.1.rng
                                        have v3 := k3.1.2.2.1
                                        have a3 : s3.2.2.2.2.2.2 = s2.2.2.2.2.2.2 := k3.2.2.2
                                        refine e_istore (lsn := [(4, _), (3, _), (2, _), (1, _), (0, _)]) 109 dX12_readOnce_107 (by decide) rfl rfl ?_
                                        refine e_aload_n (i := 0) 110 dX12_readOnce_109 rfl rfl rfl ?_
                                        refine e_getr (j := 4) 113 fl_12_24 dX12_readOnce_110 at_928 rfl rfl tp_928_4 rfl ?_
                                        refine e_bipush 115 dX12_readOnce_113 (by decide) rfl ?_
                                        refine e_iload_n (i := 1) 116 dX12_readOnce_115 rfl rfl rfl ?_
                                        refine e_iadd 117 dX12_readOnce_116 rfl ?_
                                        refine e_iload 119 dX12_readOnce_117 rfl rfl ?_
                                        refine e_iast 120 dX12_readOnce_119 ar_932 (by omega) (by omega) (by omega) rfl ?_
                                        refine e_vret dX12_readOnce_120 ?_
                                        first
                                          | (exfalso; omega)
                                          | (rw [pOnce, if_neg (by omega), pO4, ← e3, ← e2] at h
                                             simp (disch := omega) only [put_r6, put_w6, put_r7, put_w7, put_r9, put_w9, put_r10, put_w10, put_r11, put_w11, put_r12, put_w12, put_r13, put_w13, put_r14, put_w14, put_r15, put_w15, put_ra, put_r8, put_r0, put_rt, put_wa, u1, u2, hn8]
                                             exact h))))
                      · omega))
          · first
             | (exfalso; omega)
             | (skip
                refine e_vret dX12_readOnce_31 ?_
                first
                  | (exfalso; omega)
                  | (rw [pOnce, if_pos (by omega)] at h
                     exact h)))
    · first
       | (exfalso; omega)
       | (skip
          refine e_aload_n (i := 0) 20 dX12_readOnce_19 rfl rfl rfl ?_
          refine e_iconst 21 dX12_readOnce_20 rfl ?_
          refine e_callV 24 mt_yX12_fails mv_yX12_fails wd_1426 (by decide) dX12_readOnce_21 at_928 jc_12 rfl rfl rfl (Nat.le_of_ble_eq_true rfl) (jroom (by decide)) rfl (m_fails (by (try simp (disch := omega) only [put_r6, put_w6, put_r7, put_w7, put_r9, put_w9, put_r10, put_w10, put_r11, put_w11, put_r12, put_w12, put_r13, put_w13, put_r14, put_w14, put_r15, put_w15, put_ra, put_r8, put_r0, put_rt, put_wa, u1, u2, hn8]); omega) ?_)
          dsimp only [jpush]
          (try simp (disch := omega) only [put_r6, put_w6, put_r7, put_w7, put_r9, put_w9, put_r10, put_w10, put_r11, put_w11, put_r12, put_w12, put_r13, put_w13, put_r14, put_w14, put_r15, put_w15, put_ra, put_r8, put_r0, put_rt, put_wa, u1, u2, hn8])
          refine e_aload_n (i := 0) 25 dX12_readOnce_24 rfl rfl rfl ?_
          refine e_geti (j := 11) 28 fl_12_123 dX12_readOnce_25 at_928 (by decide) rfl rfl (fun r25 => ?_)
          simp (disch := omega) only [put_r6, put_w6, put_r7, put_w7, put_r9, put_w9, put_r10, put_w10, put_r11, put_w11, put_r12, put_w12, put_r13, put_w13, put_r14, put_w14, put_r15, put_w15, put_ra, put_r8, put_r0, put_rt, put_wa, u1, u2, hn8] at r25 ⊢
          refine e_if_eq 31 32 dX12_readOnce_28 (by omega) (by decide) rfl (fun b28 => ?_) (fun b28 => ?_)
          · first
             | (exfalso; omega)
             | (skip
                refine e_aload_n (i := 0) 33 dX12_readOnce_32 rfl rfl rfl ?_
                refine e_dup 34 dX12_readOnce_33 rfl rfl ?_
                refine e_geti (j := 15) 37 fl_12_153 dX12_readOnce_34 at_928 (by decide) rfl rfl (fun r34 => ?_)
                simp (disch := omega) only [put_r6, put_w6, put_r7, put_w7, put_r9, put_w9, put_r10, put_w10, put_r11, put_w11, put_r12, put_w12, put_r13, put_w13, put_r14, put_w14, put_r15, put_w15, put_ra, put_r8, put_r0, put_rt, put_wa, u1, u2, hn8] at r34 ⊢
                refine e_iconst 38 dX12_readOnce_37 rfl ?_
                refine e_iload_n (i := 1) 39 dX12_readOnce_38 rfl rfl rfl ?_
                refine e_ishl 40 dX12_readOnce_39 rfl ?_
                refine e_ior 41 dX12_readOnce_40 rfl ?_
                refine e_puti (j := 15) 44 fl_12_153 dX12_readOnce_41 at_928 rfl rfl rfl (by omega) rfl ?_
                simp (disch := omega) only [put_r6, put_w6, put_r7, put_w7, put_r9, put_w9, put_r10, put_w10, put_r11, put_w11, put_r12, put_w12, put_r13, put_w13, put_r14, put_w14, put_r15, put_w15, put_ra, put_r8, put_r0, put_rt, put_wa, u1, u2, hn8]
                refine e_aload_n (i := 0) 45 dX12_readOnce_44 rfl rfl rfl ?_
                refine e_callV 48 mt_yX12_next mv_yX12_next wd_1393 (by decide) dX12_readOnce_45 at_928 jc_12 rfl rfl rfl (Nat.le_of_ble_eq_true rfl) (jroom (by decide)) rfl (m_next hT (by (try simp (disch := omega) only [put_r6, put_w6, put_r7, put_w7, put_r9, put_w9, put_r10, put_w10, put_r11, put_w11, put_r12, put_w12, put_r13, put_w13, put_r14, put_w14, put_r15, put_w15, put_ra, put_r8, put_r0, put_rt, put_wa, u1, u2, hn8]); omega) ?_)
                dsimp only [jpush]
                (try simp (disch := omega) only [put_r6, put_w6, put_r7, put_w7, put_r9, put_w9, put_r10, put_w10, put_r11, put_w11, put_r12, put_w12, put_r13, put_w13, put_r14, put_w14, put_r15, put_w15, put_ra, put_r8, put_r0, put_rt, put_wa, u1, u2, hn8])
                have hI1 : PI n (pO1 s) := hI
                obtain ⟨s2, e2⟩ : ∃ z, z = pO2 (M 931) n s := ⟨_, rfl⟩
                have g2 : pO2 (M 931) n s = s2 := e2.symm
                unfold pO2 pO1 at g2
                rw [g2]
                have k2 : PK n (pO1 s) s2 := by
                  rw [e2]
                  exact (pk_next hT hI1 hw).1
                have q2 := k2.1.rng
                have v2 := k2.1.2.2.1
                refine e_iload_n (i := 1) 49 dX12_readOnce_48 rfl rfl rfl ?_
                refine e_iconst 50 dX12_readOnce_49 rfl ?_
                refine e_icmp_eq 53 58 dX12_readOnce_50 (by omega) (by decide) (by decide) rfl (fun b50 => ?_) (fun b50 => ?_)
                · omega
                · first
                   | (exfalso; omega)
                   | (skip
                      refine e_iload_n (i := 1) 54 dX12_readOnce_53 rfl rfl rfl ?_
                      refine e_iconst 55 dX12_readOnce_54 rfl ?_
                      refine e_icmp_ne 58 62 dX12_readOnce_55 (by omega) (by decide) (by decide) rfl (fun b55 => ?_) (fun b55 => ?_)
                      · first
                         | (exfalso; omega)
                         | (skip
                            refine e_iconst 63 dX12_readOnce_62 rfl ?_
                            refine e_istore_n (i := 2) (lsn := [(2, _), (1, _), (0, _)]) 64 dX12_readOnce_63 rfl (by decide) rfl rfl ?_
                            refine e_iload_n (i := 1) 65 dX12_readOnce_64 rfl rfl rfl ?_
                            refine e_if_eq 68 73 dX12_readOnce_65 (by omega) (by decide) rfl (fun b65 => ?_) (fun b65 => ?_)
                            · omega
                            · first
                               | (exfalso; omega)
                               | (skip
                                  refine e_iload_n (i := 1) 69 dX12_readOnce_68 rfl rfl rfl ?_
                                  refine e_iconst 70 dX12_readOnce_69 rfl ?_
                                  refine e_icmp_ne 73 78 dX12_readOnce_70 (by omega) (by decide) (by decide) rfl (fun b70 => ?_) (fun b70 => ?_)
                                  · omega
                                  · first
                                     | (exfalso; omega)
                                     | (skip
                                        refine e_bipush 75 dX12_readOnce_73 (by decide) rfl ?_
                                        refine e_goto 100 dX12_readOnce_75 (by decide) ?_
                                        refine e_istore_n (i := 3) (lsn := [(3, _), (2, _), (1, _), (0, _)]) 101 dX12_readOnce_100 rfl (by decide) rfl rfl ?_
                                        refine e_aload_n (i := 0) 102 dX12_readOnce_101 rfl rfl rfl ?_
                                        refine e_iload_n (i := 2) 103 dX12_readOnce_102 rfl rfl rfl ?_
                                        refine e_iload_n (i := 3) 104 dX12_readOnce_103 rfl rfl rfl ?_
                                        refine e_callV 107 mt_yX12_reads mv_yX12_reads wd_1430 (by decide) dX12_readOnce_104 at_928 jc_12 rfl rfl rfl (Nat.le_of_ble_eq_true rfl) (jroom (by decide)) rfl (m_reads hT (by (try simp (disch := omega) only [put_r6, put_w6, put_r7, put_w7, put_r9, put_w9, put_r10, put_w10, put_r11, put_w11, put_r12, put_w12, put_r13, put_w13, put_r14, put_w14, put_r15, put_w15, put_ra, put_r8, put_r0, put_rt, put_wa, u1, u2, hn8]); omega) (by (try simp (disch := omega) only [put_r6, put_w6, put_r7, put_w7, put_r9, put_w9, put_r10, put_w10, put_r11, put_w11, put_r12, put_w12, put_r13, put_w13, put_r14, put_w14, put_r15, put_w15, put_ra, put_r8, put_r0, put_rt, put_wa, u1, u2, hn8]); omega) (by (try simp (disch := omega) only [put_r6, put_w6, put_r7, put_w7, put_r9, put_w9, put_r10, put_w10, put_r11, put_w11, put_r12, put_w12, put_r13, put_w13, put_r14, put_w14, put_r15, put_w15, put_ra, put_r8, put_r0, put_rt, put_wa, u1, u2, hn8]); omega) ?_)
                                        dsimp only [jpush]
                                        (try simp (disch := omega) only [put_r6, put_w6, put_r7, put_w7, put_r9, put_w9, put_r10, put_w10, put_r11, put_w11, put_r12, put_w12, put_r13, put_w13, put_r14, put_w14, put_r15, put_w15, put_ra, put_r8, put_r0, put_rt, put_wa, u1, u2, hn8])
                                        obtain ⟨s3, e3⟩ : ∃ z, z = pO3 (M 931) n s := ⟨_, rfl⟩
                                        have g3 : pRead (M 931) n 0 99 s2 = s3 := by
                                          rw [e3]
                                          rw [pO3, hkk, ← e2]
                                          rfl
                                        rw [g3]
                                        have k3 := pk_read (lo := 0) (hi := 99) hT k2.1
                                        rw [g3] at k3
                                        have q3 := k3.1.rng
                                        have v3 := k3.1.2.2.1
                                        have a3 : s3.2.2.2.2.2.2 = s2.2.2.2.2.2.2 := k3.2.2.2
                                        refine e_istore (lsn := [(4, _), (3, _), (2, _), (1, _), (0, _)]) 109 dX12_readOnce_107 (by decide) rfl rfl ?_
                                        refine e_aload_n (i := 0) 110 dX12_readOnce_109 rfl rfl rfl ?_
                                        refine e_getr (j := 4) 113 fl_12_24 dX12_readOnce_110 at_928 rfl rfl tp_928_4 rfl ?_
                                        refine e_bipush 115 dX12_readOnce_113 (by decide) rfl ?_
                                        refine e_iload_n (i := 1) 116 dX12_readOnce_115 rfl rfl rfl ?_
                                        refine e_iadd 117 dX12_readOnce_116 rfl ?_
                                        refine e_iload 119 dX12_readOnce_117 rfl rfl ?_
                                        refine e_iast 120 dX12_readOnce_119 ar_932 (by omega) (by omega) (by omega) rfl ?_
                                        refine e_vret dX12_readOnce_120 ?_
                                        first
                                          | (exfalso; omega)
                                          | (rw [pOnce, if_neg (by omega), pO4, ← e3, ← e2] at h
                                             simp (disch := omega) only [put_r6, put_w6, put_r7, put_w7, put_r9, put_w9, put_r10, put_w10, put_r11, put_w11, put_r12, put_w12, put_r13, put_w13, put_r14, put_w14, put_r15, put_w15, put_ra, put_r8, put_r0, put_rt, put_wa, u1, u2, hn8]
                                             exact h))))
                      · omega))
          · first
             | (exfalso; omega)
             | (skip
                refine e_vret dX12_readOnce_31 ?_
                first
                  | (exfalso; omega)
                  | (rw [pOnce, if_pos (by omega)] at h
                     exact h)))
  · skip
    refine e_aload_n (i := 0) 1 dX12_readOnce_0 rfl rfl rfl ?_
    refine e_geti (j := 9) 4 fl_12_107 dX12_readOnce_1 at_928 (by decide) rfl rfl (fun r1 => ?_)
    simp (disch := omega) only [put_r6, put_w6, put_r7, put_w7, put_r9, put_w9, put_r10, put_w10, put_r11, put_w11, put_r12, put_w12, put_r13, put_w13, put_r14, put_w14, put_r15, put_w15, put_ra, put_r8, put_r0, put_rt, put_wa, u1, u2, hn8] at r1 ⊢
    refine e_iconst 5 dX12_readOnce_4 rfl ?_
    refine e_isub 6 dX12_readOnce_5 rfl ?_
    refine e_istore_n (i := 1) (lsn := [(1, _), (0, _)]) 7 dX12_readOnce_6 rfl (by decide) rfl rfl ?_
    refine e_aload_n (i := 0) 8 dX12_readOnce_7 rfl rfl rfl ?_
    refine e_geti (j := 15) 11 fl_12_153 dX12_readOnce_8 at_928 (by decide) rfl rfl (fun r8 => ?_)
    simp (disch := omega) only [put_r6, put_w6, put_r7, put_w7, put_r9, put_w9, put_r10, put_w10, put_r11, put_w11, put_r12, put_w12, put_r13, put_w13, put_r14, put_w14, put_r15, put_w15, put_ra, put_r8, put_r0, put_rt, put_wa, u1, u2, hn8] at r8 ⊢
    refine e_iload_n (i := 1) 12 dX12_readOnce_11 rfl rfl rfl ?_
    refine e_ishr 13 dX12_readOnce_12 rfl ?_
    refine e_iconst 14 dX12_readOnce_13 rfl ?_
    refine e_iand 15 dX12_readOnce_14 rfl ?_
    refine e_iconst 16 dX12_readOnce_15 rfl ?_
    refine e_icmp_ne 19 24 dX12_readOnce_16 (by omega) (by decide) (by decide) rfl (fun b16 => ?_) (fun b16 => ?_)
    · first
       | (exfalso; omega)
       | (skip
          refine e_aload_n (i := 0) 25 dX12_readOnce_24 rfl rfl rfl ?_
          refine e_geti (j := 11) 28 fl_12_123 dX12_readOnce_25 at_928 (by decide) rfl rfl (fun r25 => ?_)
          simp (disch := omega) only [put_r6, put_w6, put_r7, put_w7, put_r9, put_w9, put_r10, put_w10, put_r11, put_w11, put_r12, put_w12, put_r13, put_w13, put_r14, put_w14, put_r15, put_w15, put_ra, put_r8, put_r0, put_rt, put_wa, u1, u2, hn8] at r25 ⊢
          refine e_if_eq 31 32 dX12_readOnce_28 (by omega) (by decide) rfl (fun b28 => ?_) (fun b28 => ?_)
          · first
             | (exfalso; omega)
             | (skip
                refine e_aload_n (i := 0) 33 dX12_readOnce_32 rfl rfl rfl ?_
                refine e_dup 34 dX12_readOnce_33 rfl rfl ?_
                refine e_geti (j := 15) 37 fl_12_153 dX12_readOnce_34 at_928 (by decide) rfl rfl (fun r34 => ?_)
                simp (disch := omega) only [put_r6, put_w6, put_r7, put_w7, put_r9, put_w9, put_r10, put_w10, put_r11, put_w11, put_r12, put_w12, put_r13, put_w13, put_r14, put_w14, put_r15, put_w15, put_ra, put_r8, put_r0, put_rt, put_wa, u1, u2, hn8] at r34 ⊢
                refine e_iconst 38 dX12_readOnce_37 rfl ?_
                refine e_iload_n (i := 1) 39 dX12_readOnce_38 rfl rfl rfl ?_
                refine e_ishl 40 dX12_readOnce_39 rfl ?_
                refine e_ior 41 dX12_readOnce_40 rfl ?_
                refine e_puti (j := 15) 44 fl_12_153 dX12_readOnce_41 at_928 rfl rfl rfl (by omega) rfl ?_
                simp (disch := omega) only [put_r6, put_w6, put_r7, put_w7, put_r9, put_w9, put_r10, put_w10, put_r11, put_w11, put_r12, put_w12, put_r13, put_w13, put_r14, put_w14, put_r15, put_w15, put_ra, put_r8, put_r0, put_rt, put_wa, u1, u2, hn8]
                refine e_aload_n (i := 0) 45 dX12_readOnce_44 rfl rfl rfl ?_
                refine e_callV 48 mt_yX12_next mv_yX12_next wd_1393 (by decide) dX12_readOnce_45 at_928 jc_12 rfl rfl rfl (Nat.le_of_ble_eq_true rfl) (jroom (by decide)) rfl (m_next hT (by (try simp (disch := omega) only [put_r6, put_w6, put_r7, put_w7, put_r9, put_w9, put_r10, put_w10, put_r11, put_w11, put_r12, put_w12, put_r13, put_w13, put_r14, put_w14, put_r15, put_w15, put_ra, put_r8, put_r0, put_rt, put_wa, u1, u2, hn8]); omega) ?_)
                dsimp only [jpush]
                (try simp (disch := omega) only [put_r6, put_w6, put_r7, put_w7, put_r9, put_w9, put_r10, put_w10, put_r11, put_w11, put_r12, put_w12, put_r13, put_w13, put_r14, put_w14, put_r15, put_w15, put_ra, put_r8, put_r0, put_rt, put_wa, u1, u2, hn8])
                have hI1 : PI n (pO1 s) := hI
                obtain ⟨s2, e2⟩ : ∃ z, z = pO2 (M 931) n s := ⟨_, rfl⟩
                have g2 : pO2 (M 931) n s = s2 := e2.symm
                unfold pO2 pO1 at g2
                rw [g2]
                have k2 : PK n (pO1 s) s2 := by
                  rw [e2]
                  exact (pk_next hT hI1 hw).1
                have q2 := k2.1.rng
                have v2 := k2.1.2.2.1
                refine e_iload_n (i := 1) 49 dX12_readOnce_48 rfl rfl rfl ?_
                refine e_iconst 50 dX12_readOnce_49 rfl ?_
                refine e_icmp_eq 53 58 dX12_readOnce_50 (by omega) (by decide) (by decide) rfl (fun b50 => ?_) (fun b50 => ?_)
                · first
                   | (exfalso; omega)
                   | (skip
                      refine e_iconst 59 dX12_readOnce_58 rfl ?_
                      refine e_goto 63 dX12_readOnce_59 (by decide) ?_
                      refine e_istore_n (i := 2) (lsn := [(2, _), (1, _), (0, _)]) 64 dX12_readOnce_63 rfl (by decide) rfl rfl ?_
                      refine e_iload_n (i := 1) 65 dX12_readOnce_64 rfl rfl rfl ?_
                      refine e_if_eq 68 73 dX12_readOnce_65 (by omega) (by decide) rfl (fun b65 => ?_) (fun b65 => ?_)
                      · omega
                      · first
                         | (exfalso; omega)
                         | (skip
                            refine e_iload_n (i := 1) 69 dX12_readOnce_68 rfl rfl rfl ?_
                            refine e_iconst 70 dX12_readOnce_69 rfl ?_
                            refine e_icmp_ne 73 78 dX12_readOnce_70 (by omega) (by decide) (by decide) rfl (fun b70 => ?_) (fun b70 => ?_)
                            · first
                               | (exfalso; omega)
                               | (skip
                                  refine e_iload_n (i := 1) 79 dX12_readOnce_78 rfl rfl rfl ?_
                                  refine e_iconst 80 dX12_readOnce_79 rfl ?_
                                  refine e_icmp_ne 83 88 dX12_readOnce_80 (by omega) (by decide) (by decide) rfl (fun b80 => ?_) (fun b80 => ?_)
                                  · omega
                                  · first
                                     | (exfalso; omega)
                                     | (skip
                                        refine e_bipush 85 dX12_readOnce_83 (by decide) rfl ?_
                                        refine e_goto 100 dX12_readOnce_85 (by decide) ?_
                                        refine e_istore_n (i := 3) (lsn := [(3, _), (2, _), (1, _), (0, _)]) 101 dX12_readOnce_100 rfl (by decide) rfl rfl ?_
                                        refine e_aload_n (i := 0) 102 dX12_readOnce_101 rfl rfl rfl ?_
                                        refine e_iload_n (i := 2) 103 dX12_readOnce_102 rfl rfl rfl ?_
                                        refine e_iload_n (i := 3) 104 dX12_readOnce_103 rfl rfl rfl ?_
                                        refine e_callV 107 mt_yX12_reads mv_yX12_reads wd_1430 (by decide) dX12_readOnce_104 at_928 jc_12 rfl rfl rfl (Nat.le_of_ble_eq_true rfl) (jroom (by decide)) rfl (m_reads hT (by (try simp (disch := omega) only [put_r6, put_w6, put_r7, put_w7, put_r9, put_w9, put_r10, put_w10, put_r11, put_w11, put_r12, put_w12, put_r13, put_w13, put_r14, put_w14, put_r15, put_w15, put_ra, put_r8, put_r0, put_rt, put_wa, u1, u2, hn8]); omega) (by (try simp (disch := omega) only [put_r6, put_w6, put_r7, put_w7, put_r9, put_w9, put_r10, put_w10, put_r11, put_w11, put_r12, put_w12, put_r13, put_w13, put_r14, put_w14, put_r15, put_w15, put_ra, put_r8, put_r0, put_rt, put_wa, u1, u2, hn8]); omega) (by (try simp (disch := omega) only [put_r6, put_w6, put_r7, put_w7, put_r9, put_w9, put_r10, put_w10, put_r11, put_w11, put_r12, put_w12, put_r13, put_w13, put_r14, put_w14, put_r15, put_w15, put_ra, put_r8, put_r0, put_rt, put_wa, u1, u2, hn8]); omega) ?_)
                                        dsimp only [jpush]
                                        (try simp (disch := omega) only [put_r6, put_w6, put_r7, put_w7, put_r9, put_w9, put_r10, put_w10, put_r11, put_w11, put_r12, put_w12, put_r13, put_w13, put_r14, put_w14, put_r15, put_w15, put_ra, put_r8, put_r0, put_rt, put_wa, u1, u2, hn8])
                                        obtain ⟨s3, e3⟩ : ∃ z, z = pO3 (M 931) n s := ⟨_, rfl⟩
                                        have g3 : pRead (M 931) n 1 104 s2 = s3 := by
                                          rw [e3]
                                          rw [pO3, hkk, ← e2]
                                          rfl
                                        rw [g3]
                                        have k3 := pk_read (lo := 1) (hi := 104) hT k2.1
                                        rw [g3] at k3
                                        have q3 := k3.1.rng
                                        have v3 := k3.1.2.2.1
                                        have a3 : s3.2.2.2.2.2.2 = s2.2.2.2.2.2.2 := k3.2.2.2
                                        refine e_istore (lsn := [(4, _), (3, _), (2, _), (1, _), (0, _)]) 109 dX12_readOnce_107 (by decide) rfl rfl ?_
                                        refine e_aload_n (i := 0) 110 dX12_readOnce_109 rfl rfl rfl ?_
                                        refine e_getr (j := 4) 113 fl_12_24 dX12_readOnce_110 at_928 rfl rfl tp_928_4 rfl ?_
                                        refine e_bipush 115 dX12_readOnce_113 (by decide) rfl ?_
                                        refine e_iload_n (i := 1) 116 dX12_readOnce_115 rfl rfl rfl ?_
                                        refine e_iadd 117 dX12_readOnce_116 rfl ?_
                                        refine e_iload 119 dX12_readOnce_117 rfl rfl ?_
                                        refine e_iast 120 dX12_readOnce_119 ar_932 (by omega) (by omega) (by omega) rfl ?_
                                        refine e_vret dX12_readOnce_120 ?_
                                        first
                                          | (exfalso; omega)
                                          | (rw [pOnce, if_neg (by omega), pO4, ← e3, ← e2] at h
                                             simp (disch := omega) only [put_r6, put_w6, put_r7, put_w7, put_r9, put_w9, put_r10, put_w10, put_r11, put_w11, put_r12, put_w12, put_r13, put_w13, put_r14, put_w14, put_r15, put_w15, put_ra, put_r8, put_r0, put_rt, put_wa, u1, u2, hn8]
                                             exact h)))
                            · omega))
                · omega)
          · first
             | (exfalso; omega)
             | (skip
                refine e_vret dX12_readOnce_31 ?_
                first
                  | (exfalso; omega)
                  | (rw [pOnce, if_pos (by omega)] at h
                     exact h)))
    · first
       | (exfalso; omega)
       | (skip
          refine e_aload_n (i := 0) 20 dX12_readOnce_19 rfl rfl rfl ?_
          refine e_iconst 21 dX12_readOnce_20 rfl ?_
          refine e_callV 24 mt_yX12_fails mv_yX12_fails wd_1426 (by decide) dX12_readOnce_21 at_928 jc_12 rfl rfl rfl (Nat.le_of_ble_eq_true rfl) (jroom (by decide)) rfl (m_fails (by (try simp (disch := omega) only [put_r6, put_w6, put_r7, put_w7, put_r9, put_w9, put_r10, put_w10, put_r11, put_w11, put_r12, put_w12, put_r13, put_w13, put_r14, put_w14, put_r15, put_w15, put_ra, put_r8, put_r0, put_rt, put_wa, u1, u2, hn8]); omega) ?_)
          dsimp only [jpush]
          (try simp (disch := omega) only [put_r6, put_w6, put_r7, put_w7, put_r9, put_w9, put_r10, put_w10, put_r11, put_w11, put_r12, put_w12, put_r13, put_w13, put_r14, put_w14, put_r15, put_w15, put_ra, put_r8, put_r0, put_rt, put_wa, u1, u2, hn8])
          refine e_aload_n (i := 0) 25 dX12_readOnce_24 rfl rfl rfl ?_
          refine e_geti (j := 11) 28 fl_12_123 dX12_readOnce_25 at_928 (by decide) rfl rfl (fun r25 => ?_)
          simp (disch := omega) only [put_r6, put_w6, put_r7, put_w7, put_r9, put_w9, put_r10, put_w10, put_r11, put_w11, put_r12, put_w12, put_r13, put_w13, put_r14, put_w14, put_r15, put_w15, put_ra, put_r8, put_r0, put_rt, put_wa, u1, u2, hn8] at r25 ⊢
          refine e_if_eq 31 32 dX12_readOnce_28 (by omega) (by decide) rfl (fun b28 => ?_) (fun b28 => ?_)
          · first
             | (exfalso; omega)
             | (skip
                refine e_aload_n (i := 0) 33 dX12_readOnce_32 rfl rfl rfl ?_
                refine e_dup 34 dX12_readOnce_33 rfl rfl ?_
                refine e_geti (j := 15) 37 fl_12_153 dX12_readOnce_34 at_928 (by decide) rfl rfl (fun r34 => ?_)
                simp (disch := omega) only [put_r6, put_w6, put_r7, put_w7, put_r9, put_w9, put_r10, put_w10, put_r11, put_w11, put_r12, put_w12, put_r13, put_w13, put_r14, put_w14, put_r15, put_w15, put_ra, put_r8, put_r0, put_rt, put_wa, u1, u2, hn8] at r34 ⊢
                refine e_iconst 38 dX12_readOnce_37 rfl ?_
                refine e_iload_n (i := 1) 39 dX12_readOnce_38 rfl rfl rfl ?_
                refine e_ishl 40 dX12_readOnce_39 rfl ?_
                refine e_ior 41 dX12_readOnce_40 rfl ?_
                refine e_puti (j := 15) 44 fl_12_153 dX12_readOnce_41 at_928 rfl rfl rfl (by omega) rfl ?_
                simp (disch := omega) only [put_r6, put_w6, put_r7, put_w7, put_r9, put_w9, put_r10, put_w10, put_r11, put_w11, put_r12, put_w12, put_r13, put_w13, put_r14, put_w14, put_r15, put_w15, put_ra, put_r8, put_r0, put_rt, put_wa, u1, u2, hn8]
                refine e_aload_n (i := 0) 45 dX12_readOnce_44 rfl rfl rfl ?_
                refine e_callV 48 mt_yX12_next mv_yX12_next wd_1393 (by decide) dX12_readOnce_45 at_928 jc_12 rfl rfl rfl (Nat.le_of_ble_eq_true rfl) (jroom (by decide)) rfl (m_next hT (by (try simp (disch := omega) only [put_r6, put_w6, put_r7, put_w7, put_r9, put_w9, put_r10, put_w10, put_r11, put_w11, put_r12, put_w12, put_r13, put_w13, put_r14, put_w14, put_r15, put_w15, put_ra, put_r8, put_r0, put_rt, put_wa, u1, u2, hn8]); omega) ?_)
                dsimp only [jpush]
                (try simp (disch := omega) only [put_r6, put_w6, put_r7, put_w7, put_r9, put_w9, put_r10, put_w10, put_r11, put_w11, put_r12, put_w12, put_r13, put_w13, put_r14, put_w14, put_r15, put_w15, put_ra, put_r8, put_r0, put_rt, put_wa, u1, u2, hn8])
                have hI1 : PI n (pO1 s) := hI
                obtain ⟨s2, e2⟩ : ∃ z, z = pO2 (M 931) n s := ⟨_, rfl⟩
                have g2 : pO2 (M 931) n s = s2 := e2.symm
                unfold pO2 pO1 at g2
                rw [g2]
                have k2 : PK n (pO1 s) s2 := by
                  rw [e2]
                  exact (pk_next hT hI1 hw).1
                have q2 := k2.1.rng
                have v2 := k2.1.2.2.1
                refine e_iload_n (i := 1) 49 dX12_readOnce_48 rfl rfl rfl ?_
                refine e_iconst 50 dX12_readOnce_49 rfl ?_
                refine e_icmp_eq 53 58 dX12_readOnce_50 (by omega) (by decide) (by decide) rfl (fun b50 => ?_) (fun b50 => ?_)
                · first
                   | (exfalso; omega)
                   | (skip
                      refine e_iconst 59 dX12_readOnce_58 rfl ?_
                      refine e_goto 63 dX12_readOnce_59 (by decide) ?_
                      refine e_istore_n (i := 2) (lsn := [(2, _), (1, _), (0, _)]) 64 dX12_readOnce_63 rfl (by decide) rfl rfl ?_
                      refine e_iload_n (i := 1) 65 dX12_readOnce_64 rfl rfl rfl ?_
                      refine e_if_eq 68 73 dX12_readOnce_65 (by omega) (by decide) rfl (fun b65 => ?_) (fun b65 => ?_)
                      · omega
                      · first
                         | (exfalso; omega)
                         | (skip
                            refine e_iload_n (i := 1) 69 dX12_readOnce_68 rfl rfl rfl ?_
                            refine e_iconst 70 dX12_readOnce_69 rfl ?_
                            refine e_icmp_ne 73 78 dX12_readOnce_70 (by omega) (by decide) (by decide) rfl (fun b70 => ?_) (fun b70 => ?_)
                            · first
                               | (exfalso; omega)
                               | (skip
                                  refine e_iload_n (i := 1) 79 dX12_readOnce_78 rfl rfl rfl ?_
                                  refine e_iconst 80 dX12_readOnce_79 rfl ?_
                                  refine e_icmp_ne 83 88 dX12_readOnce_80 (by omega) (by decide) (by decide) rfl (fun b80 => ?_) (fun b80 => ?_)
                                  · omega
                                  · first
                                     | (exfalso; omega)
                                     | (skip
                                        refine e_bipush 85 dX12_readOnce_83 (by decide) rfl ?_
                                        refine e_goto 100 dX12_readOnce_85 (by decide) ?_
                                        refine e_istore_n (i := 3) (lsn := [(3, _), (2, _), (1, _), (0, _)]) 101 dX12_readOnce_100 rfl (by decide) rfl rfl ?_
                                        refine e_aload_n (i := 0) 102 dX12_readOnce_101 rfl rfl rfl ?_
                                        refine e_iload_n (i := 2) 103 dX12_readOnce_102 rfl rfl rfl ?_
                                        refine e_iload_n (i := 3) 104 dX12_readOnce_103 rfl rfl rfl ?_
                                        refine e_callV 107 mt_yX12_reads mv_yX12_reads wd_1430 (by decide) dX12_readOnce_104 at_928 jc_12 rfl rfl rfl (Nat.le_of_ble_eq_true rfl) (jroom (by decide)) rfl (m_reads hT (by (try simp (disch := omega) only [put_r6, put_w6, put_r7, put_w7, put_r9, put_w9, put_r10, put_w10, put_r11, put_w11, put_r12, put_w12, put_r13, put_w13, put_r14, put_w14, put_r15, put_w15, put_ra, put_r8, put_r0, put_rt, put_wa, u1, u2, hn8]); omega) (by (try simp (disch := omega) only [put_r6, put_w6, put_r7, put_w7, put_r9, put_w9, put_r10, put_w10, put_r11, put_w11, put_r12, put_w12, put_r13, put_w13, put_r14, put_w14, put_r15, put_w15, put_ra, put_r8, put_r0, put_rt, put_wa, u1, u2, hn8]); omega) (by (try simp (disch := omega) only [put_r6, put_w6, put_r7, put_w7, put_r9, put_w9, put_r10, put_w10, put_r11, put_w11, put_r12, put_w12, put_r13, put_w13, put_r14, put_w14, put_r15, put_w15, put_ra, put_r8, put_r0, put_rt, put_wa, u1, u2, hn8]); omega) ?_)
                                        dsimp only [jpush]
                                        (try simp (disch := omega) only [put_r6, put_w6, put_r7, put_w7, put_r9, put_w9, put_r10, put_w10, put_r11, put_w11, put_r12, put_w12, put_r13, put_w13, put_r14, put_w14, put_r15, put_w15, put_ra, put_r8, put_r0, put_rt, put_wa, u1, u2, hn8])
                                        obtain ⟨s3, e3⟩ : ∃ z, z = pO3 (M 931) n s := ⟨_, rfl⟩
                                        have g3 : pRead (M 931) n 1 104 s2 = s3 := by
                                          rw [e3]
                                          rw [pO3, hkk, ← e2]
                                          rfl
                                        rw [g3]
                                        have k3 := pk_read (lo := 1) (hi := 104) hT k2.1
                                        rw [g3] at k3
                                        have q3 := k3.1.rng
                                        have v3 := k3.1.2.2.1
                                        have a3 : s3.2.2.2.2.2.2 = s2.2.2.2.2.2.2 := k3.2.2.2
                                        refine e_istore (lsn := [(4, _), (3, _), (2, _), (1, _), (0, _)]) 109 dX12_readOnce_107 (by decide) rfl rfl ?_
                                        refine e_aload_n (i := 0) 110 dX12_readOnce_109 rfl rfl rfl ?_
                                        refine e_getr (j := 4) 113 fl_12_24 dX12_readOnce_110 at_928 rfl rfl tp_928_4 rfl ?_
                                        refine e_bipush 115 dX12_readOnce_113 (by decide) rfl ?_
                                        refine e_iload_n (i := 1) 116 dX12_readOnce_115 rfl rfl rfl ?_
                                        refine e_iadd 117 dX12_readOnce_116 rfl ?_
                                        refine e_iload 119 dX12_readOnce_117 rfl rfl ?_
                                        refine e_iast 120 dX12_readOnce_119 ar_932 (by omega) (by omega) (by omega) rfl ?_
                                        refine e_vret dX12_readOnce_120 ?_
                                        first
                                          | (exfalso; omega)
                                          | (rw [pOnce, if_neg (by omega), pO4, ← e3, ← e2] at h
                                             simp (disch := omega) only [put_r6, put_w6, put_r7, put_w7, put_r9, put_w9, put_r10, put_w10, put_r11, put_w11, put_r12, put_w12, put_r13, put_w13, put_r14, put_w14, put_r15, put_w15, put_ra, put_r8, put_r0, put_rt, put_wa, u1, u2, hn8]
                                             exact h)))
                            · omega))
                · omega)
          · first
             | (exfalso; omega)
             | (skip
                refine e_vret dX12_readOnce_31 ?_
                first
                  | (exfalso; omega)
                  | (rw [pOnce, if_pos (by omega)] at h
                     exact h)))
  · skip
    refine e_aload_n (i := 0) 1 dX12_readOnce_0 rfl rfl rfl ?_
    refine e_geti (j := 9) 4 fl_12_107 dX12_readOnce_1 at_928 (by decide) rfl rfl (fun r1 => ?_)
    simp (disch := omega) only [put_r6, put_w6, put_r7, put_w7, put_r9, put_w9, put_r10, put_w10, put_r11, put_w11, put_r12, put_w12, put_r13, put_w13, put_r14, put_w14, put_r15, put_w15, put_ra, put_r8, put_r0, put_rt, put_wa, u1, u2, hn8] at r1 ⊢
    refine e_iconst 5 dX12_readOnce_4 rfl ?_
    refine e_isub 6 dX12_readOnce_5 rfl ?_
    refine e_istore_n (i := 1) (lsn := [(1, _), (0, _)]) 7 dX12_readOnce_6 rfl (by decide) rfl rfl ?_
    refine e_aload_n (i := 0) 8 dX12_readOnce_7 rfl rfl rfl ?_
    refine e_geti (j := 15) 11 fl_12_153 dX12_readOnce_8 at_928 (by decide) rfl rfl (fun r8 => ?_)
    simp (disch := omega) only [put_r6, put_w6, put_r7, put_w7, put_r9, put_w9, put_r10, put_w10, put_r11, put_w11, put_r12, put_w12, put_r13, put_w13, put_r14, put_w14, put_r15, put_w15, put_ra, put_r8, put_r0, put_rt, put_wa, u1, u2, hn8] at r8 ⊢
    refine e_iload_n (i := 1) 12 dX12_readOnce_11 rfl rfl rfl ?_
    refine e_ishr 13 dX12_readOnce_12 rfl ?_
    refine e_iconst 14 dX12_readOnce_13 rfl ?_
    refine e_iand 15 dX12_readOnce_14 rfl ?_
    refine e_iconst 16 dX12_readOnce_15 rfl ?_
    refine e_icmp_ne 19 24 dX12_readOnce_16 (by omega) (by decide) (by decide) rfl (fun b16 => ?_) (fun b16 => ?_)
    · first
       | (exfalso; omega)
       | (skip
          refine e_aload_n (i := 0) 25 dX12_readOnce_24 rfl rfl rfl ?_
          refine e_geti (j := 11) 28 fl_12_123 dX12_readOnce_25 at_928 (by decide) rfl rfl (fun r25 => ?_)
          simp (disch := omega) only [put_r6, put_w6, put_r7, put_w7, put_r9, put_w9, put_r10, put_w10, put_r11, put_w11, put_r12, put_w12, put_r13, put_w13, put_r14, put_w14, put_r15, put_w15, put_ra, put_r8, put_r0, put_rt, put_wa, u1, u2, hn8] at r25 ⊢
          refine e_if_eq 31 32 dX12_readOnce_28 (by omega) (by decide) rfl (fun b28 => ?_) (fun b28 => ?_)
          · first
             | (exfalso; omega)
             | (skip
                refine e_aload_n (i := 0) 33 dX12_readOnce_32 rfl rfl rfl ?_
                refine e_dup 34 dX12_readOnce_33 rfl rfl ?_
                refine e_geti (j := 15) 37 fl_12_153 dX12_readOnce_34 at_928 (by decide) rfl rfl (fun r34 => ?_)
                simp (disch := omega) only [put_r6, put_w6, put_r7, put_w7, put_r9, put_w9, put_r10, put_w10, put_r11, put_w11, put_r12, put_w12, put_r13, put_w13, put_r14, put_w14, put_r15, put_w15, put_ra, put_r8, put_r0, put_rt, put_wa, u1, u2, hn8] at r34 ⊢
                refine e_iconst 38 dX12_readOnce_37 rfl ?_
                refine e_iload_n (i := 1) 39 dX12_readOnce_38 rfl rfl rfl ?_
                refine e_ishl 40 dX12_readOnce_39 rfl ?_
                refine e_ior 41 dX12_readOnce_40 rfl ?_
                refine e_puti (j := 15) 44 fl_12_153 dX12_readOnce_41 at_928 rfl rfl rfl (by omega) rfl ?_
                simp (disch := omega) only [put_r6, put_w6, put_r7, put_w7, put_r9, put_w9, put_r10, put_w10, put_r11, put_w11, put_r12, put_w12, put_r13, put_w13, put_r14, put_w14, put_r15, put_w15, put_ra, put_r8, put_r0, put_rt, put_wa, u1, u2, hn8]
                refine e_aload_n (i := 0) 45 dX12_readOnce_44 rfl rfl rfl ?_
                refine e_callV 48 mt_yX12_next mv_yX12_next wd_1393 (by decide) dX12_readOnce_45 at_928 jc_12 rfl rfl rfl (Nat.le_of_ble_eq_true rfl) (jroom (by decide)) rfl (m_next hT (by (try simp (disch := omega) only [put_r6, put_w6, put_r7, put_w7, put_r9, put_w9, put_r10, put_w10, put_r11, put_w11, put_r12, put_w12, put_r13, put_w13, put_r14, put_w14, put_r15, put_w15, put_ra, put_r8, put_r0, put_rt, put_wa, u1, u2, hn8]); omega) ?_)
                dsimp only [jpush]
                (try simp (disch := omega) only [put_r6, put_w6, put_r7, put_w7, put_r9, put_w9, put_r10, put_w10, put_r11, put_w11, put_r12, put_w12, put_r13, put_w13, put_r14, put_w14, put_r15, put_w15, put_ra, put_r8, put_r0, put_rt, put_wa, u1, u2, hn8])
                have hI1 : PI n (pO1 s) := hI
                obtain ⟨s2, e2⟩ : ∃ z, z = pO2 (M 931) n s := ⟨_, rfl⟩
                have g2 : pO2 (M 931) n s = s2 := e2.symm
                unfold pO2 pO1 at g2
                rw [g2]
                have k2 : PK n (pO1 s) s2 := by
                  rw [e2]
                  exact (pk_next hT hI1 hw).1
                have q2 := k2.1.rng
                have v2 := k2.1.2.2.1
                refine e_iload_n (i := 1) 49 dX12_readOnce_48 rfl rfl rfl ?_
                refine e_iconst 50 dX12_readOnce_49 rfl ?_
                refine e_icmp_eq 53 58 dX12_readOnce_50 (by omega) (by decide) (by decide) rfl (fun b50 => ?_) (fun b50 => ?_)
                · omega
                · first
                   | (exfalso; omega)
                   | (skip
                      refine e_iload_n (i := 1) 54 dX12_readOnce_53 rfl rfl rfl ?_
                      refine e_iconst 55 dX12_readOnce_54 rfl ?_
                      refine e_icmp_ne 58 62 dX12_readOnce_55 (by omega) (by decide) (by decide) rfl (fun b55 => ?_) (fun b55 => ?_)
                      · first
                         | (exfalso; omega)
                         | (skip
                            refine e_iconst 63 dX12_readOnce_62 rfl ?_
                            refine e_istore_n (i := 2) (lsn := [(2, _), (1, _), (0, _)]) 64 dX12_readOnce_63 rfl (by decide) rfl rfl ?_
                            refine e_iload_n (i := 1) 65 dX12_readOnce_64 rfl rfl rfl ?_
                            refine e_if_eq 68 73 dX12_readOnce_65 (by omega) (by decide) rfl (fun b65 => ?_) (fun b65 => ?_)
                            · omega
                            · first
                               | (exfalso; omega)
                               | (skip
                                  refine e_iload_n (i := 1) 69 dX12_readOnce_68 rfl rfl rfl ?_
                                  refine e_iconst 70 dX12_readOnce_69 rfl ?_
                                  refine e_icmp_ne 73 78 dX12_readOnce_70 (by omega) (by decide) (by decide) rfl (fun b70 => ?_) (fun b70 => ?_)
                                  · first
                                     | (exfalso; omega)
                                     | (skip
                                        refine e_iload_n (i := 1) 79 dX12_readOnce_78 rfl rfl rfl ?_
                                        refine e_iconst 80 dX12_readOnce_79 rfl ?_
                                        refine e_icmp_ne 83 88 dX12_readOnce_80 (by omega) (by decide) (by decide) rfl (fun b80 => ?_) (fun b80 => ?_)
                                        · first
                                           | (exfalso; omega)
                                           | (skip
                                              refine e_iload_n (i := 1) 89 dX12_readOnce_88 rfl rfl rfl ?_
                                              refine e_iconst 90 dX12_readOnce_89 rfl ?_
                                              refine e_icmp_ne 93 98 dX12_readOnce_90 (by omega) (by decide) (by decide) rfl (fun b90 => ?_) (fun b90 => ?_)
                                              · first
                                                 | (exfalso; omega)
                                                 | (skip
                                                    refine e_bipush 100 dX12_readOnce_98 (by decide) rfl ?_
                                                    refine e_istore_n (i := 3) (lsn := [(3, _), (2, _), (1, _), (0, _)]) 101 dX12_readOnce_100 rfl (by decide) rfl rfl ?_
                                                    refine e_aload_n (i := 0) 102 dX12_readOnce_101 rfl rfl rfl ?_
                                                    refine e_iload_n (i := 2) 103 dX12_readOnce_102 rfl rfl rfl ?_
                                                    refine e_iload_n (i := 3) 104 dX12_readOnce_103 rfl rfl rfl ?_
                                                    refine e_callV 107 mt_yX12_reads mv_yX12_reads wd_1430 (by decide) dX12_readOnce_104 at_928 jc_12 rfl rfl rfl (Nat.le_of_ble_eq_true rfl) (jroom (by decide)) rfl (m_reads hT (by (try simp (disch := omega) only [put_r6, put_w6, put_r7, put_w7, put_r9, put_w9, put_r10, put_w10, put_r11, put_w11, put_r12, put_w12, put_r13, put_w13, put_r14, put_w14, put_r15, put_w15, put_ra, put_r8, put_r0, put_rt, put_wa, u1, u2, hn8]); omega) (by (try simp (disch := omega) only [put_r6, put_w6, put_r7, put_w7, put_r9, put_w9, put_r10, put_w10, put_r11, put_w11, put_r12, put_w12, put_r13, put_w13, put_r14, put_w14, put_r15, put_w15, put_ra, put_r8, put_r0, put_rt, put_wa, u1, u2, hn8]); omega) (by (try simp (disch := omega) only [put_r6, put_w6, put_r7, put_w7, put_r9, put_w9, put_r10, put_w10, put_r11, put_w11, put_r12, put_w12, put_r13, put_w13, put_r14, put_w14, put_r15, put_w15, put_ra, put_r8, put_r0, put_rt, put_wa, u1, u2, hn8]); omega) ?_)
                                                    dsimp only [jpush]
                                                    (try simp (disch := omega) only [put_r6, put_w6, put_r7, put_w7, put_r9, put_w9, put_r10, put_w10, put_r11, put_w11, put_r12, put_w12, put_r13, put_w13, put_r14, put_w14, put_r15, put_w15, put_ra, put_r8, put_r0, put_rt, put_wa, u1, u2, hn8])
                                                    obtain ⟨s3, e3⟩ : ∃ z, z = pO3 (M 931) n s := ⟨_, rfl⟩
                                                    have g3 : pRead (M 931) n 0 20 s2 = s3 := by
                                                      rw [e3]
                                                      rw [pO3, hkk, ← e2]
                                                      rfl
                                                    rw [g3]
                                                    have k3 := pk_read (lo := 0) (hi := 20) hT k2.1
                                                    rw [g3] at k3
                                                    have q3 := k3.1.rng
                                                    have v3 := k3.1.2.2.1
                                                    have a3 : s3.2.2.2.2.2.2 = s2.2.2.2.2.2.2 := k3.2.2.2
                                                    refine e_istore (lsn := [(4, _), (3, _), (2, _), (1, _), (0, _)]) 109 dX12_readOnce_107 (by decide) rfl rfl ?_
                                                    refine e_aload_n (i := 0) 110 dX12_readOnce_109 rfl rfl rfl ?_
                                                    refine e_getr (j := 4) 113 fl_12_24 dX12_readOnce_110 at_928 rfl rfl tp_928_4 rfl ?_
                                                    refine e_bipush 115 dX12_readOnce_113 (by decide) rfl ?_
                                                    refine e_iload_n (i := 1) 116 dX12_readOnce_115 rfl rfl rfl ?_
                                                    refine e_iadd 117 dX12_readOnce_116 rfl ?_
                                                    refine e_iload 119 dX12_readOnce_117 rfl rfl ?_
                                                    refine e_iast 120 dX12_readOnce_119 ar_932 (by omega) (by omega) (by omega) rfl ?_
                                                    refine e_vret dX12_readOnce_120 ?_
                                                    first
                                                      | (exfalso; omega)
                                                      | (rw [pOnce, if_neg (by omega), pO4, ← e3, ← e2] at h
                                                         simp (disch := omega) only [put_r6, put_w6, put_r7, put_w7, put_r9, put_w9, put_r10, put_w10, put_r11, put_w11, put_r12, put_w12, put_r13, put_w13, put_r14, put_w14, put_r15, put_w15, put_ra, put_r8, put_r0, put_rt, put_wa, u1, u2, hn8]
                                                         exact h))
                                              · omega)
                                        · omega)
                                  · omega))
                      · omega))
          · first
             | (exfalso; omega)
             | (skip
                refine e_vret dX12_readOnce_31 ?_
                first
                  | (exfalso; omega)
                  | (rw [pOnce, if_pos (by omega)] at h
                     exact h)))
    · first
       | (exfalso; omega)
       | (skip
          refine e_aload_n (i := 0) 20 dX12_readOnce_19 rfl rfl rfl ?_
          refine e_iconst 21 dX12_readOnce_20 rfl ?_
          refine e_callV 24 mt_yX12_fails mv_yX12_fails wd_1426 (by decide) dX12_readOnce_21 at_928 jc_12 rfl rfl rfl (Nat.le_of_ble_eq_true rfl) (jroom (by decide)) rfl (m_fails (by (try simp (disch := omega) only [put_r6, put_w6, put_r7, put_w7, put_r9, put_w9, put_r10, put_w10, put_r11, put_w11, put_r12, put_w12, put_r13, put_w13, put_r14, put_w14, put_r15, put_w15, put_ra, put_r8, put_r0, put_rt, put_wa, u1, u2, hn8]); omega) ?_)
          dsimp only [jpush]
          (try simp (disch := omega) only [put_r6, put_w6, put_r7, put_w7, put_r9, put_w9, put_r10, put_w10, put_r11, put_w11, put_r12, put_w12, put_r13, put_w13, put_r14, put_w14, put_r15, put_w15, put_ra, put_r8, put_r0, put_rt, put_wa, u1, u2, hn8])
          refine e_aload_n (i := 0) 25 dX12_readOnce_24 rfl rfl rfl ?_
          refine e_geti (j := 11) 28 fl_12_123 dX12_readOnce_25 at_928 (by decide) rfl rfl (fun r25 => ?_)
          simp (disch := omega) only [put_r6, put_w6, put_r7, put_w7, put_r9, put_w9, put_r10, put_w10, put_r11, put_w11, put_r12, put_w12, put_r13, put_w13, put_r14, put_w14, put_r15, put_w15, put_ra, put_r8, put_r0, put_rt, put_wa, u1, u2, hn8] at r25 ⊢
          refine e_if_eq 31 32 dX12_readOnce_28 (by omega) (by decide) rfl (fun b28 => ?_) (fun b28 => ?_)
          · first
             | (exfalso; omega)
             | (skip
                refine e_aload_n (i := 0) 33 dX12_readOnce_32 rfl rfl rfl ?_
                refine e_dup 34 dX12_readOnce_33 rfl rfl ?_
                refine e_geti (j := 15) 37 fl_12_153 dX12_readOnce_34 at_928 (by decide) rfl rfl (fun r34 => ?_)
                simp (disch := omega) only [put_r6, put_w6, put_r7, put_w7, put_r9, put_w9, put_r10, put_w10, put_r11, put_w11, put_r12, put_w12, put_r13, put_w13, put_r14, put_w14, put_r15, put_w15, put_ra, put_r8, put_r0, put_rt, put_wa, u1, u2, hn8] at r34 ⊢
                refine e_iconst 38 dX12_readOnce_37 rfl ?_
                refine e_iload_n (i := 1) 39 dX12_readOnce_38 rfl rfl rfl ?_
                refine e_ishl 40 dX12_readOnce_39 rfl ?_
                refine e_ior 41 dX12_readOnce_40 rfl ?_
                refine e_puti (j := 15) 44 fl_12_153 dX12_readOnce_41 at_928 rfl rfl rfl (by omega) rfl ?_
                simp (disch := omega) only [put_r6, put_w6, put_r7, put_w7, put_r9, put_w9, put_r10, put_w10, put_r11, put_w11, put_r12, put_w12, put_r13, put_w13, put_r14, put_w14, put_r15, put_w15, put_ra, put_r8, put_r0, put_rt, put_wa, u1, u2, hn8]
                refine e_aload_n (i := 0) 45 dX12_readOnce_44 rfl rfl rfl ?_
                refine e_callV 48 mt_yX12_next mv_yX12_next wd_1393 (by decide) dX12_readOnce_45 at_928 jc_12 rfl rfl rfl (Nat.le_of_ble_eq_true rfl) (jroom (by decide)) rfl (m_next hT (by (try simp (disch := omega) only [put_r6, put_w6, put_r7, put_w7, put_r9, put_w9, put_r10, put_w10, put_r11, put_w11, put_r12, put_w12, put_r13, put_w13, put_r14, put_w14, put_r15, put_w15, put_ra, put_r8, put_r0, put_rt, put_wa, u1, u2, hn8]); omega) ?_)
                dsimp only [jpush]
                (try simp (disch := omega) only [put_r6, put_w6, put_r7, put_w7, put_r9, put_w9, put_r10, put_w10, put_r11, put_w11, put_r12, put_w12, put_r13, put_w13, put_r14, put_w14, put_r15, put_w15, put_ra, put_r8, put_r0, put_rt, put_wa, u1, u2, hn8])
                have hI1 : PI n (pO1 s) := hI
                obtain ⟨s2, e2⟩ : ∃ z, z = pO2 (M 931) n s := ⟨_, rfl⟩
                have g2 : pO2 (M 931) n s = s2 := e2.symm
                unfold pO2 pO1 at g2
                rw [g2]
                have k2 : PK n (pO1 s) s2 := by
                  rw [e2]
                  exact (pk_next hT hI1 hw).1
                have q2 := k2.1.rng
                have v2 := k2.1.2.2.1
                refine e_iload_n (i := 1) 49 dX12_readOnce_48 rfl rfl rfl ?_
                refine e_iconst 50 dX12_readOnce_49 rfl ?_
                refine e_icmp_eq 53 58 dX12_readOnce_50 (by omega) (by decide) (by decide) rfl (fun b50 => ?_) (fun b50 => ?_)
                · omega
                · first
                   | (exfalso; omega)
                   | (skip
                      refine e_iload_n (i := 1) 54 dX12_readOnce_53 rfl rfl rfl ?_
                      refine e_iconst 55 dX12_readOnce_54 rfl ?_
                      refine e_icmp_ne 58 62 dX12_readOnce_55 (by omega) (by decide) (by decide) rfl (fun b55 => ?_) (fun b55 => ?_)
                      · first
                         | (exfalso; omega)
                         | (skip
                            refine e_iconst 63 dX12_readOnce_62 rfl ?_
                            refine e_istore_n (i := 2) (lsn := [(2, _), (1, _), (0, _)]) 64 dX12_readOnce_63 rfl (by decide) rfl rfl ?_
                            refine e_iload_n (i := 1) 65 dX12_readOnce_64 rfl rfl rfl ?_
                            refine e_if_eq 68 73 dX12_readOnce_65 (by omega) (by decide) rfl (fun b65 => ?_) (fun b65 => ?_)
                            · omega
                            · first
                               | (exfalso; omega)
                               | (skip
                                  refine e_iload_n (i := 1) 69 dX12_readOnce_68 rfl rfl rfl ?_
                                  refine e_iconst 70 dX12_readOnce_69 rfl ?_
                                  refine e_icmp_ne 73 78 dX12_readOnce_70 (by omega) (by decide) (by decide) rfl (fun b70 => ?_) (fun b70 => ?_)
                                  · first
                                     | (exfalso; omega)
                                     | (skip
                                        refine e_iload_n (i := 1) 79 dX12_readOnce_78 rfl rfl rfl ?_
                                        refine e_iconst 80 dX12_readOnce_79 rfl ?_
                                        refine e_icmp_ne 83 88 dX12_readOnce_80 (by omega) (by decide) (by decide) rfl (fun b80 => ?_) (fun b80 => ?_)
                                        · first
                                           | (exfalso; omega)
                                           | (skip
                                              refine e_iload_n (i := 1) 89 dX12_readOnce_88 rfl rfl rfl ?_
                                              refine e_iconst 90 dX12_readOnce_89 rfl ?_
                                              refine e_icmp_ne 93 98 dX12_readOnce_90 (by omega) (by decide) (by decide) rfl (fun b90 => ?_) (fun b90 => ?_)
                                              · first
                                                 | (exfalso; omega)
                                                 | (skip
                                                    refine e_bipush 100 dX12_readOnce_98 (by decide) rfl ?_
                                                    refine e_istore_n (i := 3) (lsn := [(3, _), (2, _), (1, _), (0, _)]) 101 dX12_readOnce_100 rfl (by decide) rfl rfl ?_
                                                    refine e_aload_n (i := 0) 102 dX12_readOnce_101 rfl rfl rfl ?_
                                                    refine e_iload_n (i := 2) 103 dX12_readOnce_102 rfl rfl rfl ?_
                                                    refine e_iload_n (i := 3) 104 dX12_readOnce_103 rfl rfl rfl ?_
                                                    refine e_callV 107 mt_yX12_reads mv_yX12_reads wd_1430 (by decide) dX12_readOnce_104 at_928 jc_12 rfl rfl rfl (Nat.le_of_ble_eq_true rfl) (jroom (by decide)) rfl (m_reads hT (by (try simp (disch := omega) only [put_r6, put_w6, put_r7, put_w7, put_r9, put_w9, put_r10, put_w10, put_r11, put_w11, put_r12, put_w12, put_r13, put_w13, put_r14, put_w14, put_r15, put_w15, put_ra, put_r8, put_r0, put_rt, put_wa, u1, u2, hn8]); omega) (by (try simp (disch := omega) only [put_r6, put_w6, put_r7, put_w7, put_r9, put_w9, put_r10, put_w10, put_r11, put_w11, put_r12, put_w12, put_r13, put_w13, put_r14, put_w14, put_r15, put_w15, put_ra, put_r8, put_r0, put_rt, put_wa, u1, u2, hn8]); omega) (by (try simp (disch := omega) only [put_r6, put_w6, put_r7, put_w7, put_r9, put_w9, put_r10, put_w10, put_r11, put_w11, put_r12, put_w12, put_r13, put_w13, put_r14, put_w14, put_r15, put_w15, put_ra, put_r8, put_r0, put_rt, put_wa, u1, u2, hn8]); omega) ?_)
                                                    dsimp only [jpush]
                                                    (try simp (disch := omega) only [put_r6, put_w6, put_r7, put_w7, put_r9, put_w9, put_r10, put_w10, put_r11, put_w11, put_r12, put_w12, put_r13, put_w13, put_r14, put_w14, put_r15, put_w15, put_ra, put_r8, put_r0, put_rt, put_wa, u1, u2, hn8])
                                                    obtain ⟨s3, e3⟩ : ∃ z, z = pO3 (M 931) n s := ⟨_, rfl⟩
                                                    have g3 : pRead (M 931) n 0 20 s2 = s3 := by
                                                      rw [e3]
                                                      rw [pO3, hkk, ← e2]
                                                      rfl
                                                    rw [g3]
                                                    have k3 := pk_read (lo := 0) (hi := 20) hT k2.1
                                                    rw [g3] at k3
                                                    have q3 := k3.1.rng
                                                    have v3 := k3.1.2.2.1
                                                    have a3 : s3.2.2.2.2.2.2 = s2.2.2.2.2.2.2 := k3.2.2.2
                                                    refine e_istore (lsn := [(4, _), (3, _), (2, _), (1, _), (0, _)]) 109 dX12_readOnce_107 (by decide) rfl rfl ?_
                                                    refine e_aload_n (i := 0) 110 dX12_readOnce_109 rfl rfl rfl ?_
                                                    refine e_getr (j := 4) 113 fl_12_24 dX12_readOnce_110 at_928 rfl rfl tp_928_4 rfl ?_
                                                    refine e_bipush 115 dX12_readOnce_113 (by decide) rfl ?_
                                                    refine e_iload_n (i := 1) 116 dX12_readOnce_115 rfl rfl rfl ?_
                                                    refine e_iadd 117 dX12_readOnce_116 rfl ?_
                                                    refine e_iload 119 dX12_readOnce_117 rfl rfl ?_
                                                    refine e_iast 120 dX12_readOnce_119 ar_932 (by omega) (by omega) (by omega) rfl ?_
                                                    refine e_vret dX12_readOnce_120 ?_
                                                    first
                                                      | (exfalso; omega)
                                                      | (rw [pOnce, if_neg (by omega), pO4, ← e3, ← e2] at h
                                                         simp (disch := omega) only [put_r6, put_w6, put_r7, put_w7, put_r9, put_w9, put_r10, put_w10, put_r11, put_w11, put_r12, put_w12, put_r13, put_w13, put_r14, put_w14, put_r15, put_w15, put_ra, put_r8, put_r0, put_rt, put_wa, u1, u2, hn8]
                                                         exact h))
                                              · omega)
                                        · omega)
                                  · omega))
                      · omega))
          · first
             | (exfalso; omega)
             | (skip
                refine e_vret dX12_readOnce_31 ?_
                first
                  | (exfalso; omega)
                  | (rw [pOnce, if_pos (by omega)] at h
                     exact h)))
  · skip
    refine e_aload_n (i := 0) 1 dX12_readOnce_0 rfl rfl rfl ?_
    refine e_geti (j := 9) 4 fl_12_107 dX12_readOnce_1 at_928 (by decide) rfl rfl (fun r1 => ?_)
    simp (disch := omega) only [put_r6, put_w6, put_r7, put_w7, put_r9, put_w9, put_r10, put_w10, put_r11, put_w11, put_r12, put_w12, put_r13, put_w13, put_r14, put_w14, put_r15, put_w15, put_ra, put_r8, put_r0, put_rt, put_wa, u1, u2, hn8] at r1 ⊢
    refine e_iconst 5 dX12_readOnce_4 rfl ?_
    refine e_isub 6 dX12_readOnce_5 rfl ?_
    refine e_istore_n (i := 1) (lsn := [(1, _), (0, _)]) 7 dX12_readOnce_6 rfl (by decide) rfl rfl ?_
    refine e_aload_n (i := 0) 8 dX12_readOnce_7 rfl rfl rfl ?_
    refine e_geti (j := 15) 11 fl_12_153 dX12_readOnce_8 at_928 (by decide) rfl rfl (fun r8 => ?_)
    simp (disch := omega) only [put_r6, put_w6, put_r7, put_w7, put_r9, put_w9, put_r10, put_w10, put_r11, put_w11, put_r12, put_w12, put_r13, put_w13, put_r14, put_w14, put_r15, put_w15, put_ra, put_r8, put_r0, put_rt, put_wa, u1, u2, hn8] at r8 ⊢
    refine e_iload_n (i := 1) 12 dX12_readOnce_11 rfl rfl rfl ?_
    refine e_ishr 13 dX12_readOnce_12 rfl ?_
    refine e_iconst 14 dX12_readOnce_13 rfl ?_
    refine e_iand 15 dX12_readOnce_14 rfl ?_
    refine e_iconst 16 dX12_readOnce_15 rfl ?_
    refine e_icmp_ne 19 24 dX12_readOnce_16 (by omega) (by decide) (by decide) rfl (fun b16 => ?_) (fun b16 => ?_)
    · first
       | (exfalso; omega)
       | (skip
          refine e_aload_n (i := 0) 25 dX12_readOnce_24 rfl rfl rfl ?_
          refine e_geti (j := 11) 28 fl_12_123 dX12_readOnce_25 at_928 (by decide) rfl rfl (fun r25 => ?_)
          simp (disch := omega) only [put_r6, put_w6, put_r7, put_w7, put_r9, put_w9, put_r10, put_w10, put_r11, put_w11, put_r12, put_w12, put_r13, put_w13, put_r14, put_w14, put_r15, put_w15, put_ra, put_r8, put_r0, put_rt, put_wa, u1, u2, hn8] at r25 ⊢
          refine e_if_eq 31 32 dX12_readOnce_28 (by omega) (by decide) rfl (fun b28 => ?_) (fun b28 => ?_)
          · first
             | (exfalso; omega)
             | (skip
                refine e_aload_n (i := 0) 33 dX12_readOnce_32 rfl rfl rfl ?_
                refine e_dup 34 dX12_readOnce_33 rfl rfl ?_
                refine e_geti (j := 15) 37 fl_12_153 dX12_readOnce_34 at_928 (by decide) rfl rfl (fun r34 => ?_)
                simp (disch := omega) only [put_r6, put_w6, put_r7, put_w7, put_r9, put_w9, put_r10, put_w10, put_r11, put_w11, put_r12, put_w12, put_r13, put_w13, put_r14, put_w14, put_r15, put_w15, put_ra, put_r8, put_r0, put_rt, put_wa, u1, u2, hn8] at r34 ⊢
                refine e_iconst 38 dX12_readOnce_37 rfl ?_
                refine e_iload_n (i := 1) 39 dX12_readOnce_38 rfl rfl rfl ?_
                refine e_ishl 40 dX12_readOnce_39 rfl ?_
                refine e_ior 41 dX12_readOnce_40 rfl ?_
                refine e_puti (j := 15) 44 fl_12_153 dX12_readOnce_41 at_928 rfl rfl rfl (by omega) rfl ?_
                simp (disch := omega) only [put_r6, put_w6, put_r7, put_w7, put_r9, put_w9, put_r10, put_w10, put_r11, put_w11, put_r12, put_w12, put_r13, put_w13, put_r14, put_w14, put_r15, put_w15, put_ra, put_r8, put_r0, put_rt, put_wa, u1, u2, hn8]
                refine e_aload_n (i := 0) 45 dX12_readOnce_44 rfl rfl rfl ?_
                refine e_callV 48 mt_yX12_next mv_yX12_next wd_1393 (by decide) dX12_readOnce_45 at_928 jc_12 rfl rfl rfl (Nat.le_of_ble_eq_true rfl) (jroom (by decide)) rfl (m_next hT (by (try simp (disch := omega) only [put_r6, put_w6, put_r7, put_w7, put_r9, put_w9, put_r10, put_w10, put_r11, put_w11, put_r12, put_w12, put_r13, put_w13, put_r14, put_w14, put_r15, put_w15, put_ra, put_r8, put_r0, put_rt, put_wa, u1, u2, hn8]); omega) ?_)
                dsimp only [jpush]
                (try simp (disch := omega) only [put_r6, put_w6, put_r7, put_w7, put_r9, put_w9, put_r10, put_w10, put_r11, put_w11, put_r12, put_w12, put_r13, put_w13, put_r14, put_w14, put_r15, put_w15, put_ra, put_r8, put_r0, put_rt, put_wa, u1, u2, hn8])
                have hI1 : PI n (pO1 s) := hI
                obtain ⟨s2, e2⟩ : ∃ z, z = pO2 (M 931) n s := ⟨_, rfl⟩
                have g2 : pO2 (M 931) n s = s2 := e2.symm
                unfold pO2 pO1 at g2
                rw [g2]
                have k2 : PK n (pO1 s) s2 := by
                  rw [e2]
                  exact (pk_next hT hI1 hw).1
                have q2 := k2.1.rng
                have v2 := k2.1.2.2.1
                refine e_iload_n (i := 1) 49 dX12_readOnce_48 rfl rfl rfl ?_
                refine e_iconst 50 dX12_readOnce_49 rfl ?_
                refine e_icmp_eq 53 58 dX12_readOnce_50 (by omega) (by decide) (by decide) rfl (fun b50 => ?_) (fun b50 => ?_)
                · omega
                · first
                   | (exfalso; omega)
                   | (skip
                      refine e_iload_n (i := 1) 54 dX12_readOnce_53 rfl rfl rfl ?_
                      refine e_iconst 55 dX12_readOnce_54 rfl ?_
                      refine e_icmp_ne 58 62 dX12_readOnce_55 (by omega) (by decide) (by decide) rfl (fun b55 => ?_) (fun b55 => ?_)
                      · omega
                      · first
                         | (exfalso; omega)
                         | (skip
                            refine e_iconst 59 dX12_readOnce_58 rfl ?_
                            refine e_goto 63 dX12_readOnce_59 (by decide) ?_
                            refine e_istore_n (i := 2) (lsn := [(2, _), (1, _), (0, _)]) 64 dX12_readOnce_63 rfl (by decide) rfl rfl ?_
                            refine e_iload_n (i := 1) 65 dX12_readOnce_64 rfl rfl rfl ?_
                            refine e_if_eq 68 73 dX12_readOnce_65 (by omega) (by decide) rfl (fun b65 => ?_) (fun b65 => ?_)
                            · omega
                            · first
                               | (exfalso; omega)
                               | (skip
                                  refine e_iload_n (i := 1) 69 dX12_readOnce_68 rfl rfl rfl ?_
                                  refine e_iconst 70 dX12_readOnce_69 rfl ?_
                                  refine e_icmp_ne 73 78 dX12_readOnce_70 (by omega) (by decide) (by decide) rfl (fun b70 => ?_) (fun b70 => ?_)
                                  · first
                                     | (exfalso; omega)
                                     | (skip
                                        refine e_iload_n (i := 1) 79 dX12_readOnce_78 rfl rfl rfl ?_
                                        refine e_iconst 80 dX12_readOnce_79 rfl ?_
                                        refine e_icmp_ne 83 88 dX12_readOnce_80 (by omega) (by decide) (by decide) rfl (fun b80 => ?_) (fun b80 => ?_)
                                        · first
                                           | (exfalso; omega)
                                           | (skip
                                              refine e_iload_n (i := 1) 89 dX12_readOnce_88 rfl rfl rfl ?_
                                              refine e_iconst 90 dX12_readOnce_89 rfl ?_
                                              refine e_icmp_ne 93 98 dX12_readOnce_90 (by omega) (by decide) (by decide) rfl (fun b90 => ?_) (fun b90 => ?_)
                                              · omega
                                              · first
                                                 | (exfalso; omega)
                                                 | (skip
                                                    refine e_bipush 95 dX12_readOnce_93 (by decide) rfl ?_
                                                    refine e_goto 100 dX12_readOnce_95 (by decide) ?_
                                                    refine e_istore_n (i := 3) (lsn := [(3, _), (2, _), (1, _), (0, _)]) 101 dX12_readOnce_100 rfl (by decide) rfl rfl ?_
                                                    refine e_aload_n (i := 0) 102 dX12_readOnce_101 rfl rfl rfl ?_
                                                    refine e_iload_n (i := 2) 103 dX12_readOnce_102 rfl rfl rfl ?_
                                                    refine e_iload_n (i := 3) 104 dX12_readOnce_103 rfl rfl rfl ?_
                                                    refine e_callV 107 mt_yX12_reads mv_yX12_reads wd_1430 (by decide) dX12_readOnce_104 at_928 jc_12 rfl rfl rfl (Nat.le_of_ble_eq_true rfl) (jroom (by decide)) rfl (m_reads hT (by (try simp (disch := omega) only [put_r6, put_w6, put_r7, put_w7, put_r9, put_w9, put_r10, put_w10, put_r11, put_w11, put_r12, put_w12, put_r13, put_w13, put_r14, put_w14, put_r15, put_w15, put_ra, put_r8, put_r0, put_rt, put_wa, u1, u2, hn8]); omega) (by (try simp (disch := omega) only [put_r6, put_w6, put_r7, put_w7, put_r9, put_w9, put_r10, put_w10, put_r11, put_w11, put_r12, put_w12, put_r13, put_w13, put_r14, put_w14, put_r15, put_w15, put_ra, put_r8, put_r0, put_rt, put_wa, u1, u2, hn8]); omega) (by (try simp (disch := omega) only [put_r6, put_w6, put_r7, put_w7, put_r9, put_w9, put_r10, put_w10, put_r11, put_w11, put_r12, put_w12, put_r13, put_w13, put_r14, put_w14, put_r15, put_w15, put_ra, put_r8, put_r0, put_rt, put_wa, u1, u2, hn8]); omega) ?_)
                                                    dsimp only [jpush]
                                                    (try simp (disch := omega) only [put_r6, put_w6, put_r7, put_w7, put_r9, put_w9, put_r10, put_w10, put_r11, put_w11, put_r12, put_w12, put_r13, put_w13, put_r14, put_w14, put_r15, put_w15, put_ra, put_r8, put_r0, put_rt, put_wa, u1, u2, hn8])
                                                    obtain ⟨s3, e3⟩ : ∃ z, z = pO3 (M 931) n s := ⟨_, rfl⟩
                                                    have g3 : pRead (M 931) n 1 52 s2 = s3 := by
                                                      rw [e3]
                                                      rw [pO3, hkk, ← e2]
                                                      rfl
                                                    rw [g3]
                                                    have k3 := pk_read (lo := 1) (hi := 52) hT k2.1
                                                    rw [g3] at k3
                                                    have q3 := k3.1.rng
                                                    have v3 := k3.1.2.2.1
                                                    have a3 : s3.2.2.2.2.2.2 = s2.2.2.2.2.2.2 := k3.2.2.2
                                                    refine e_istore (lsn := [(4, _), (3, _), (2, _), (1, _), (0, _)]) 109 dX12_readOnce_107 (by decide) rfl rfl ?_
                                                    refine e_aload_n (i := 0) 110 dX12_readOnce_109 rfl rfl rfl ?_
                                                    refine e_getr (j := 4) 113 fl_12_24 dX12_readOnce_110 at_928 rfl rfl tp_928_4 rfl ?_
                                                    refine e_bipush 115 dX12_readOnce_113 (by decide) rfl ?_
                                                    refine e_iload_n (i := 1) 116 dX12_readOnce_115 rfl rfl rfl ?_
                                                    refine e_iadd 117 dX12_readOnce_116 rfl ?_
                                                    refine e_iload 119 dX12_readOnce_117 rfl rfl ?_
                                                    refine e_iast 120 dX12_readOnce_119 ar_932 (by omega) (by omega) (by omega) rfl ?_
                                                    refine e_vret dX12_readOnce_120 ?_
                                                    first
                                                      | (exfalso; omega)
                                                      | (rw [pOnce, if_neg (by omega), pO4, ← e3, ← e2] at h
                                                         simp (disch := omega) only [put_r6, put_w6, put_r7, put_w7, put_r9, put_w9, put_r10, put_w10, put_r11, put_w11, put_r12, put_w12, put_r13, put_w13, put_r14, put_w14, put_r15, put_w15, put_ra, put_r8, put_r0, put_rt, put_wa, u1, u2, hn8]
                                                         exact h)))
                                        · omega)
                                  · omega))))
          · first
             | (exfalso; omega)
             | (skip
                refine e_vret dX12_readOnce_31 ?_
                first
                  | (exfalso; omega)
                  | (rw [pOnce, if_pos (by omega)] at h
                     exact h)))
    · first
       | (exfalso; omega)
       | (skip
          refine e_aload_n (i := 0) 20 dX12_readOnce_19 rfl rfl rfl ?_
          refine e_iconst 21 dX12_readOnce_20 rfl ?_
          refine e_callV 24 mt_yX12_fails mv_yX12_fails wd_1426 (by decide) dX12_readOnce_21 at_928 jc_12 rfl rfl rfl (Nat.le_of_ble_eq_true rfl) (jroom (by decide)) rfl (m_fails (by (try simp (disch := omega) only [put_r6, put_w6, put_r7, put_w7, put_r9, put_w9, put_r10, put_w10, put_r11, put_w11, put_r12, put_w12, put_r13, put_w13, put_r14, put_w14, put_r15, put_w15, put_ra, put_r8, put_r0, put_rt, put_wa, u1, u2, hn8]); omega) ?_)
          dsimp only [jpush]
          (try simp (disch := omega) only [put_r6, put_w6, put_r7, put_w7, put_r9, put_w9, put_r10, put_w10, put_r11, put_w11, put_r12, put_w12, put_r13, put_w13, put_r14, put_w14, put_r15, put_w15, put_ra, put_r8, put_r0, put_rt, put_wa, u1, u2, hn8])
          refine e_aload_n (i := 0) 25 dX12_readOnce_24 rfl rfl rfl ?_
          refine e_geti (j := 11) 28 fl_12_123 dX12_readOnce_25 at_928 (by decide) rfl rfl (fun r25 => ?_)
          simp (disch := omega) only [put_r6, put_w6, put_r7, put_w7, put_r9, put_w9, put_r10, put_w10, put_r11, put_w11, put_r12, put_w12, put_r13, put_w13, put_r14, put_w14, put_r15, put_w15, put_ra, put_r8, put_r0, put_rt, put_wa, u1, u2, hn8] at r25 ⊢
          refine e_if_eq 31 32 dX12_readOnce_28 (by omega) (by decide) rfl (fun b28 => ?_) (fun b28 => ?_)
          · first
             | (exfalso; omega)
             | (skip
                refine e_aload_n (i := 0) 33 dX12_readOnce_32 rfl rfl rfl ?_
                refine e_dup 34 dX12_readOnce_33 rfl rfl ?_
                refine e_geti (j := 15) 37 fl_12_153 dX12_readOnce_34 at_928 (by decide) rfl rfl (fun r34 => ?_)
                simp (disch := omega) only [put_r6, put_w6, put_r7, put_w7, put_r9, put_w9, put_r10, put_w10, put_r11, put_w11, put_r12, put_w12, put_r13, put_w13, put_r14, put_w14, put_r15, put_w15, put_ra, put_r8, put_r0, put_rt, put_wa, u1, u2, hn8] at r34 ⊢
                refine e_iconst 38 dX12_readOnce_37 rfl ?_
                refine e_iload_n (i := 1) 39 dX12_readOnce_38 rfl rfl rfl ?_
                refine e_ishl 40 dX12_readOnce_39 rfl ?_
                refine e_ior 41 dX12_readOnce_40 rfl ?_
                refine e_puti (j := 15) 44 fl_12_153 dX12_readOnce_41 at_928 rfl rfl rfl (by omega) rfl ?_
                simp (disch := omega) only [put_r6, put_w6, put_r7, put_w7, put_r9, put_w9, put_r10, put_w10, put_r11, put_w11, put_r12, put_w12, put_r13, put_w13, put_r14, put_w14, put_r15, put_w15, put_ra, put_r8, put_r0, put_rt, put_wa, u1, u2, hn8]
                refine e_aload_n (i := 0) 45 dX12_readOnce_44 rfl rfl rfl ?_
                refine e_callV 48 mt_yX12_next mv_yX12_next wd_1393 (by decide) dX12_readOnce_45 at_928 jc_12 rfl rfl rfl (Nat.le_of_ble_eq_true rfl) (jroom (by decide)) rfl (m_next hT (by (try simp (disch := omega) only [put_r6, put_w6, put_r7, put_w7, put_r9, put_w9, put_r10, put_w10, put_r11, put_w11, put_r12, put_w12, put_r13, put_w13, put_r14, put_w14, put_r15, put_w15, put_ra, put_r8, put_r0, put_rt, put_wa, u1, u2, hn8]); omega) ?_)
                dsimp only [jpush]
                (try simp (disch := omega) only [put_r6, put_w6, put_r7, put_w7, put_r9, put_w9, put_r10, put_w10, put_r11, put_w11, put_r12, put_w12, put_r13, put_w13, put_r14, put_w14, put_r15, put_w15, put_ra, put_r8, put_r0, put_rt, put_wa, u1, u2, hn8])
                have hI1 : PI n (pO1 s) := hI
                obtain ⟨s2, e2⟩ : ∃ z, z = pO2 (M 931) n s := ⟨_, rfl⟩
                have g2 : pO2 (M 931) n s = s2 := e2.symm
                unfold pO2 pO1 at g2
                rw [g2]
                have k2 : PK n (pO1 s) s2 := by
                  rw [e2]
                  exact (pk_next hT hI1 hw).1
                have q2 := k2.1.rng
                have v2 := k2.1.2.2.1
                refine e_iload_n (i := 1) 49 dX12_readOnce_48 rfl rfl rfl ?_
                refine e_iconst 50 dX12_readOnce_49 rfl ?_
                refine e_icmp_eq 53 58 dX12_readOnce_50 (by omega) (by decide) (by decide) rfl (fun b50 => ?_) (fun b50 => ?_)
                · omega
                · first
                   | (exfalso; omega)
                   | (skip
                      refine e_iload_n (i := 1) 54 dX12_readOnce_53 rfl rfl rfl ?_
                      refine e_iconst 55 dX12_readOnce_54 rfl ?_
                      refine e_icmp_ne 58 62 dX12_readOnce_55 (by omega) (by decide) (by decide) rfl (fun b55 => ?_) (fun b55 => ?_)
                      · omega
                      · first
                         | (exfalso; omega)
                         | (skip
                            refine e_iconst 59 dX12_readOnce_58 rfl ?_
                            refine e_goto 63 dX12_readOnce_59 (by decide) ?_
                            refine e_istore_n (i := 2) (lsn := [(2, _), (1, _), (0, _)]) 64 dX12_readOnce_63 rfl (by decide) rfl rfl ?_
                            refine e_iload_n (i := 1) 65 dX12_readOnce_64 rfl rfl rfl ?_
                            refine e_if_eq 68 73 dX12_readOnce_65 (by omega) (by decide) rfl (fun b65 => ?_) (fun b65 => ?_)
                            · omega
                            · first
                               | (exfalso; omega)
                               | (skip
                                  refine e_iload_n (i := 1) 69 dX12_readOnce_68 rfl rfl rfl ?_
                                  refine e_iconst 70 dX12_readOnce_69 rfl ?_
                                  refine e_icmp_ne 73 78 dX12_readOnce_70 (by omega) (by decide) (by decide) rfl (fun b70 => ?_) (fun b70 => ?_)
                                  · first
                                     | (exfalso; omega)
                                     | (skip
                                        refine e_iload_n (i := 1) 79 dX12_readOnce_78 rfl rfl rfl ?_
                                        refine e_iconst 80 dX12_readOnce_79 rfl ?_
                                        refine e_icmp_ne 83 88 dX12_readOnce_80 (by omega) (by decide) (by decide) rfl (fun b80 => ?_) (fun b80 => ?_)
                                        · first
                                           | (exfalso; omega)
                                           | (skip
                                              refine e_iload_n (i := 1) 89 dX12_readOnce_88 rfl rfl rfl ?_
                                              refine e_iconst 90 dX12_readOnce_89 rfl ?_
                                              refine e_icmp_ne 93 98 dX12_readOnce_90 (by omega) (by decide) (by decide) rfl (fun b90 => ?_) (fun b90 => ?_)
                                              · omega
                                              · first
                                                 | (exfalso; omega)
                                                 | (skip
                                                    refine e_bipush 95 dX12_readOnce_93 (by decide) rfl ?_
                                                    refine e_goto 100 dX12_readOnce_95 (by decide) ?_
                                                    refine e_istore_n (i := 3) (lsn := [(3, _), (2, _), (1, _), (0, _)]) 101 dX12_readOnce_100 rfl (by decide) rfl rfl ?_
                                                    refine e_aload_n (i := 0) 102 dX12_readOnce_101 rfl rfl rfl ?_
                                                    refine e_iload_n (i := 2) 103 dX12_readOnce_102 rfl rfl rfl ?_
                                                    refine e_iload_n (i := 3) 104 dX12_readOnce_103 rfl rfl rfl ?_
                                                    refine e_callV 107 mt_yX12_reads mv_yX12_reads wd_1430 (by decide) dX12_readOnce_104 at_928 jc_12 rfl rfl rfl (Nat.le_of_ble_eq_true rfl) (jroom (by decide)) rfl (m_reads hT (by (try simp (disch := omega) only [put_r6, put_w6, put_r7, put_w7, put_r9, put_w9, put_r10, put_w10, put_r11, put_w11, put_r12, put_w12, put_r13, put_w13, put_r14, put_w14, put_r15, put_w15, put_ra, put_r8, put_r0, put_rt, put_wa, u1, u2, hn8]); omega) (by (try simp (disch := omega) only [put_r6, put_w6, put_r7, put_w7, put_r9, put_w9, put_r10, put_w10, put_r11, put_w11, put_r12, put_w12, put_r13, put_w13, put_r14, put_w14, put_r15, put_w15, put_ra, put_r8, put_r0, put_rt, put_wa, u1, u2, hn8]); omega) (by (try simp (disch := omega) only [put_r6, put_w6, put_r7, put_w7, put_r9, put_w9, put_r10, put_w10, put_r11, put_w11, put_r12, put_w12, put_r13, put_w13, put_r14, put_w14, put_r15, put_w15, put_ra, put_r8, put_r0, put_rt, put_wa, u1, u2, hn8]); omega) ?_)
                                                    dsimp only [jpush]
                                                    (try simp (disch := omega) only [put_r6, put_w6, put_r7, put_w7, put_r9, put_w9, put_r10, put_w10, put_r11, put_w11, put_r12, put_w12, put_r13, put_w13, put_r14, put_w14, put_r15, put_w15, put_ra, put_r8, put_r0, put_rt, put_wa, u1, u2, hn8])
                                                    obtain ⟨s3, e3⟩ : ∃ z, z = pO3 (M 931) n s := ⟨_, rfl⟩
                                                    have g3 : pRead (M 931) n 1 52 s2 = s3 := by
                                                      rw [e3]
                                                      rw [pO3, hkk, ← e2]
                                                      rfl
                                                    rw [g3]
                                                    have k3 := pk_read (lo := 1) (hi := 52) hT k2.1
                                                    rw [g3] at k3
                                                    have q3 := k3.1.rng
                                                    have v3 := k3.1.2.2.1
                                                    have a3 : s3.2.2.2.2.2.2 = s2.2.2.2.2.2.2 := k3.2.2.2
                                                    refine e_istore (lsn := [(4, _), (3, _), (2, _), (1, _), (0, _)]) 109 dX12_readOnce_107 (by decide) rfl rfl ?_
                                                    refine e_aload_n (i := 0) 110 dX12_readOnce_109 rfl rfl rfl ?_
                                                    refine e_getr (j := 4) 113 fl_12_24 dX12_readOnce_110 at_928 rfl rfl tp_928_4 rfl ?_
                                                    refine e_bipush 115 dX12_readOnce_113 (by decide) rfl ?_
                                                    refine e_iload_n (i := 1) 116 dX12_readOnce_115 rfl rfl rfl ?_
                                                    refine e_iadd 117 dX12_readOnce_116 rfl ?_
                                                    refine e_iload 119 dX12_readOnce_117 rfl rfl ?_
                                                    refine e_iast 120 dX12_readOnce_119 ar_932 (by omega) (by omega) (by omega) rfl ?_
                                                    refine e_vret dX12_readOnce_120 ?_
                                                    first
                                                      | (exfalso; omega)
                                                      | (rw [pOnce, if_neg (by omega), pO4, ← e3, ← e2] at h
                                                         simp (disch := omega) only [put_r6, put_w6, put_r7, put_w7, put_r9, put_w9, put_r10, put_w10, put_r11, put_w11, put_r12, put_w12, put_r13, put_w13, put_r14, put_w14, put_r15, put_w15, put_ra, put_r8, put_r0, put_rt, put_wa, u1, u2, hn8]
                                                         exact h)))
                                        · omega)
                                  · omega))))
          · first
             | (exfalso; omega)
             | (skip
                refine e_vret dX12_readOnce_31 ?_
                first
                  | (exfalso; omega)
                  | (rw [pOnce, if_pos (by omega)] at h
                     exact h)))

theorem m_line {M : jM} {n : Int} {Q : Int → jM → Prop} (hT : RT M n) {s : PS} (hI : PI n s) (hw : s.2.2.2.2.1 = 0) (hk : s.2.2.1 ≠ 25) (h : Q 0 (put M (pLine (M 931) n s))) : jCt yX12_readLine cX12_readLine 1 none 10 [jR 928] (put M s) Q := by
  refine jCt_of mt_yX12_readLine (Nat.le_of_ble_eq_true rfl) (fun X => ?_)
  have hn8 := hT.1
  have hn := hT.2.1
  have q0 := hI.rng
  have w0 := hI.2.2.2.1
  have a31 := (pg_line hT hI hw hk).1.2.2.2.2.2.2.2.2.2
  refine e_aload_n (i := 0) 1 dX12_readLine_0 rfl rfl rfl ?_
  refine e_iconst 2 dX12_readLine_1 rfl ?_
  refine e_callV 5 mt_yX12_is mv_yX12_is wd_1418 (by decide) dX12_readLine_2 at_928 jc_12 rfl rfl rfl (Nat.le_of_ble_eq_true rfl) (jroom (by decide)) rfl (m_is (by (try simp (disch := omega) only [put_r6, put_w6, put_r7, put_w7, put_r9, put_w9, put_r10, put_w10, put_r11, put_w11, put_r12, put_w12, put_r13, put_w13, put_r14, put_w14, put_r15, put_w15, put_ra, put_r8, put_r0, put_rt, put_wa, u1, u2, hn8]); omega) (fun w2 => ?_) (fun w2 => ?_))
  · dsimp only [jpush]
    (try simp (disch := omega) only [put_r6, put_w6, put_r7, put_w7, put_r9, put_w9, put_r10, put_w10, put_r11, put_w11, put_r12, put_w12, put_r13, put_w13, put_r14, put_w14, put_r15, put_w15, put_ra, put_r8, put_r0, put_rt, put_wa, u1, u2, hn8] at w2)
    (try simp (disch := omega) only [put_r6, put_w6, put_r7, put_w7, put_r9, put_w9, put_r10, put_w10, put_r11, put_w11, put_r12, put_w12, put_r13, put_w13, put_r14, put_w14, put_r15, put_w15, put_ra, put_r8, put_r0, put_rt, put_wa, u1, u2, hn8])
    first
     | (exfalso; omega)
     | (skip
        refine e_if_eq 8 15 dX12_readLine_5 (by decide) (by decide) rfl (fun h => absurd h (by decide)) (fun _ => ?_)
        refine e_aload_n (i := 0) 9 dX12_readLine_8 rfl rfl rfl ?_
        refine e_callV 12 mt_yX12_readUpto mv_yX12_readUpto wd_1422 (by decide) dX12_readLine_9 at_928 jc_12 rfl rfl rfl (Nat.le_of_ble_eq_true rfl) (jroom (by decide)) rfl (m_upto hT hI (by (try simp (disch := omega) only [put_r6, put_w6, put_r7, put_w7, put_r9, put_w9, put_r10, put_w10, put_r11, put_w11, put_r12, put_w12, put_r13, put_w13, put_r14, put_w14, put_r15, put_w15, put_ra, put_r8, put_r0, put_rt, put_wa, u1, u2, hn8]); omega) ?_)
        dsimp only [jpush]
        (try simp (disch := omega) only [put_r6, put_w6, put_r7, put_w7, put_r9, put_w9, put_r10, put_w10, put_r11, put_w11, put_r12, put_w12, put_r13, put_w13, put_r14, put_w14, put_r15, put_w15, put_ra, put_r8, put_r0, put_rt, put_wa, u1, u2, hn8])
        obtain ⟨s1, e1⟩ : ∃ z, z = pL1 (M 931) n s := ⟨_, rfl⟩
        have g1 := pg_l1 hT hI hw
        rw [← e1] at g1
        have q1 := g1.1.rng
        have d1 : pUpto (M 931) n s = s1 := by
          rw [e1, pL1, if_pos (by omega)]
        rw [d1]
        refine e_goto 51 dX12_readLine_12 (by decide) ?_
        refine e_aload_n (i := 0) 52 dX12_readLine_51 rfl rfl rfl ?_
        refine e_bipush 54 dX12_readLine_52 (by decide) rfl ?_
        refine e_callV 57 mt_yX12_musts mv_yX12_musts wd_1434 (by decide) dX12_readLine_54 at_928 jc_12 rfl rfl rfl (Nat.le_of_ble_eq_true rfl) (jroom (by decide)) rfl (m_musts hT (by (try simp (disch := omega) only [put_r6, put_w6, put_r7, put_w7, put_r9, put_w9, put_r10, put_w10, put_r11, put_w11, put_r12, put_w12, put_r13, put_w13, put_r14, put_w14, put_r15, put_w15, put_ra, put_r8, put_r0, put_rt, put_wa, u1, u2, hn8]); omega) (by (try simp (disch := omega) only [put_r6, put_w6, put_r7, put_w7, put_r9, put_w9, put_r10, put_w10, put_r11, put_w11, put_r12, put_w12, put_r13, put_w13, put_r14, put_w14, put_r15, put_w15, put_ra, put_r8, put_r0, put_rt, put_wa, u1, u2, hn8]); omega) ?_)
        dsimp only [jpush]
        (try simp (disch := omega) only [put_r6, put_w6, put_r7, put_w7, put_r9, put_w9, put_r10, put_w10, put_r11, put_w11, put_r12, put_w12, put_r13, put_w13, put_r14, put_w14, put_r15, put_w15, put_ra, put_r8, put_r0, put_rt, put_wa, u1, u2, hn8])
        obtain ⟨s2, e2⟩ : ∃ z, z = pL2 (M 931) n s := ⟨_, rfl⟩
        have d2 : pMust (M 931) n 22 s1 = s2 := by
          rw [e2, pL2, ← e1]
        rw [d2]
        have a31b := line_31 (M := M) (n := n) (s := s)
        have hpb := (pg_line hT hI hw hk).1.1
        have hpp : (pLine (M 931) n s).1 = s2.1 := by rw [e2]; rfl
        rw [← e2] at a31b
        refine e_aload_n (i := 0) 58 dX12_readLine_57 rfl rfl rfl ?_
        refine e_getr (j := 4) 61 fl_12_24 dX12_readLine_58 at_928 rfl rfl tp_928_4 rfl ?_
        refine e_bipush 63 dX12_readLine_61 (by decide) rfl ?_
        refine e_dup2 64 dX12_readLine_63 rfl rfl rfl ?_
        refine e_iald 65 dX12_readLine_64 ar_932 (by decide) (by decide) rfl (fun r64 => ?_)
        simp (disch := omega) only [put_r6, put_w6, put_r7, put_w7, put_r9, put_w9, put_r10, put_w10, put_r11, put_w11, put_r12, put_w12, put_r13, put_w13, put_r14, put_w14, put_r15, put_w15, put_ra, put_r8, put_r0, put_rt, put_wa, u1, u2, hn8] at r64 ⊢
        refine e_iconst 66 dX12_readLine_65 rfl ?_
        refine e_iadd 67 dX12_readLine_66 rfl ?_
        refine e_iast 68 dX12_readLine_67 ar_932 (by decide) (by decide) (by omega) rfl ?_
        refine e_vret dX12_readLine_68 ?_
        rw [pLine, ← e2] at h
        simp (disch := omega) only [put_r6, put_w6, put_r7, put_w7, put_r9, put_w9, put_r10, put_w10, put_r11, put_w11, put_r12, put_w12, put_r13, put_w13, put_r14, put_w14, put_r15, put_w15, put_ra, put_r8, put_r0, put_rt, put_wa, u1, u2, hn8]
        exact h)
  · dsimp only [jpush]
    (try simp (disch := omega) only [put_r6, put_w6, put_r7, put_w7, put_r9, put_w9, put_r10, put_w10, put_r11, put_w11, put_r12, put_w12, put_r13, put_w13, put_r14, put_w14, put_r15, put_w15, put_ra, put_r8, put_r0, put_rt, put_wa, u1, u2, hn8] at w2)
    (try simp (disch := omega) only [put_r6, put_w6, put_r7, put_w7, put_r9, put_w9, put_r10, put_w10, put_r11, put_w11, put_r12, put_w12, put_r13, put_w13, put_r14, put_w14, put_r15, put_w15, put_ra, put_r8, put_r0, put_rt, put_wa, u1, u2, hn8])
    first
     | (exfalso; omega)
     | (skip
        refine e_if_eq 8 15 dX12_readLine_5 (by decide) (by decide) rfl (fun _ => ?_) (fun h => absurd h (by decide))
        refine e_aload_n (i := 0) 16 dX12_readLine_15 rfl rfl rfl ?_
        refine e_geti (j := 11) 19 fl_12_123 dX12_readLine_16 at_928 (by decide) rfl rfl (fun r16 => ?_)
        simp (disch := omega) only [put_r6, put_w6, put_r7, put_w7, put_r9, put_w9, put_r10, put_w10, put_r11, put_w11, put_r12, put_w12, put_r13, put_w13, put_r14, put_w14, put_r15, put_w15, put_ra, put_r8, put_r0, put_rt, put_wa, u1, u2, hn8] at r16 ⊢
        refine e_if_ne 22 46 dX12_readLine_19 (by omega) (by decide) rfl (fun b19 => ?_) (fun b19 => ?_)
        · first
           | (exfalso; omega)
           | (skip
              refine e_aload_n (i := 0) 47 dX12_readLine_46 rfl rfl rfl ?_
              refine e_iconst 48 dX12_readLine_47 rfl ?_
              refine e_callV 51 mt_yX12_fails mv_yX12_fails wd_1426 (by decide) dX12_readLine_48 at_928 jc_12 rfl rfl rfl (Nat.le_of_ble_eq_true rfl) (jroom (by decide)) rfl (m_fails (by (try simp (disch := omega) only [put_r6, put_w6, put_r7, put_w7, put_r9, put_w9, put_r10, put_w10, put_r11, put_w11, put_r12, put_w12, put_r13, put_w13, put_r14, put_w14, put_r15, put_w15, put_ra, put_r8, put_r0, put_rt, put_wa, u1, u2, hn8]); omega) ?_)
              dsimp only [jpush]
              (try simp (disch := omega) only [put_r6, put_w6, put_r7, put_w7, put_r9, put_w9, put_r10, put_w10, put_r11, put_w11, put_r12, put_w12, put_r13, put_w13, put_r14, put_w14, put_r15, put_w15, put_ra, put_r8, put_r0, put_rt, put_wa, u1, u2, hn8])
              obtain ⟨s1, e1⟩ : ∃ z, z = pL1 (M 931) n s := ⟨_, rfl⟩
              have g1 := pg_l1 hT hI hw
              rw [← e1] at g1
              have q1 := g1.1.rng
              have d1 : pFail 2 s = s1 := by
                rw [e1, pL1, if_neg (by omega), if_neg (by omega)]
              rw [d1]
              refine e_aload_n (i := 0) 52 dX12_readLine_51 rfl rfl rfl ?_
              refine e_bipush 54 dX12_readLine_52 (by decide) rfl ?_
              refine e_callV 57 mt_yX12_musts mv_yX12_musts wd_1434 (by decide) dX12_readLine_54 at_928 jc_12 rfl rfl rfl (Nat.le_of_ble_eq_true rfl) (jroom (by decide)) rfl (m_musts hT (by (try simp (disch := omega) only [put_r6, put_w6, put_r7, put_w7, put_r9, put_w9, put_r10, put_w10, put_r11, put_w11, put_r12, put_w12, put_r13, put_w13, put_r14, put_w14, put_r15, put_w15, put_ra, put_r8, put_r0, put_rt, put_wa, u1, u2, hn8]); omega) (by (try simp (disch := omega) only [put_r6, put_w6, put_r7, put_w7, put_r9, put_w9, put_r10, put_w10, put_r11, put_w11, put_r12, put_w12, put_r13, put_w13, put_r14, put_w14, put_r15, put_w15, put_ra, put_r8, put_r0, put_rt, put_wa, u1, u2, hn8]); omega) ?_)
              dsimp only [jpush]
              (try simp (disch := omega) only [put_r6, put_w6, put_r7, put_w7, put_r9, put_w9, put_r10, put_w10, put_r11, put_w11, put_r12, put_w12, put_r13, put_w13, put_r14, put_w14, put_r15, put_w15, put_ra, put_r8, put_r0, put_rt, put_wa, u1, u2, hn8])
              obtain ⟨s2, e2⟩ : ∃ z, z = pL2 (M 931) n s := ⟨_, rfl⟩
              have d2 : pMust (M 931) n 22 s1 = s2 := by
                rw [e2, pL2, ← e1]
              rw [d2]
              have a31b := line_31 (M := M) (n := n) (s := s)
              have hpb := (pg_line hT hI hw hk).1.1
              have hpp : (pLine (M 931) n s).1 = s2.1 := by rw [e2]; rfl
              rw [← e2] at a31b
              refine e_aload_n (i := 0) 58 dX12_readLine_57 rfl rfl rfl ?_
              refine e_getr (j := 4) 61 fl_12_24 dX12_readLine_58 at_928 rfl rfl tp_928_4 rfl ?_
              refine e_bipush 63 dX12_readLine_61 (by decide) rfl ?_
              refine e_dup2 64 dX12_readLine_63 rfl rfl rfl ?_
              refine e_iald 65 dX12_readLine_64 ar_932 (by decide) (by decide) rfl (fun r64 => ?_)
              simp (disch := omega) only [put_r6, put_w6, put_r7, put_w7, put_r9, put_w9, put_r10, put_w10, put_r11, put_w11, put_r12, put_w12, put_r13, put_w13, put_r14, put_w14, put_r15, put_w15, put_ra, put_r8, put_r0, put_rt, put_wa, u1, u2, hn8] at r64 ⊢
              refine e_iconst 66 dX12_readLine_65 rfl ?_
              refine e_iadd 67 dX12_readLine_66 rfl ?_
              refine e_iast 68 dX12_readLine_67 ar_932 (by decide) (by decide) (by omega) rfl ?_
              refine e_vret dX12_readLine_68 ?_
              rw [pLine, ← e2] at h
              simp (disch := omega) only [put_r6, put_w6, put_r7, put_w7, put_r9, put_w9, put_r10, put_w10, put_r11, put_w11, put_r12, put_w12, put_r13, put_w13, put_r14, put_w14, put_r15, put_w15, put_ra, put_r8, put_r0, put_rt, put_wa, u1, u2, hn8]
              exact h)
        · first
           | (exfalso; omega)
           | (skip
              refine e_aload_n (i := 0) 23 dX12_readLine_22 rfl rfl rfl ?_
              refine e_geti (j := 9) 26 fl_12_107 dX12_readLine_23 at_928 (by decide) rfl rfl (fun r23 => ?_)
              simp (disch := omega) only [put_r6, put_w6, put_r7, put_w7, put_r9, put_w9, put_r10, put_w10, put_r11, put_w11, put_r12, put_w12, put_r13, put_w13, put_r14, put_w14, put_r15, put_w15, put_ra, put_r8, put_r0, put_rt, put_wa, u1, u2, hn8] at r23 ⊢
              refine e_i2l 27 dX12_readLine_26 (by omega) rfl ?_
              refine e_ldc2 (z := (3)) 30 (ix := 159) wd_1442 (by decide) dX12_readLine_27 rfl ?_
              refine e_ldc2 (z := (8)) 33 (ix := 161) wd_1443 (by decide) dX12_readLine_30 rfl ?_
              refine e_callS 36 mt_yX12_within ms_yX12_within wd_1390 (by decide) dX12_readLine_33 rfl rfl (Nat.le_of_ble_eq_true rfl) (jroom (by decide)) rfl (m_within (by (try simp (disch := omega) only [put_r6, put_w6, put_r7, put_w7, put_r9, put_w9, put_r10, put_w10, put_r11, put_w11, put_r12, put_w12, put_r13, put_w13, put_r14, put_w14, put_r15, put_w15, put_ra, put_r8, put_r0, put_rt, put_wa, u1, u2, hn8]); omega) (by (try simp (disch := omega) only [put_r6, put_w6, put_r7, put_w7, put_r9, put_w9, put_r10, put_w10, put_r11, put_w11, put_r12, put_w12, put_r13, put_w13, put_r14, put_w14, put_r15, put_w15, put_ra, put_r8, put_r0, put_rt, put_wa, u1, u2, hn8]); omega) (by (try simp (disch := omega) only [put_r6, put_w6, put_r7, put_w7, put_r9, put_w9, put_r10, put_w10, put_r11, put_w11, put_r12, put_w12, put_r13, put_w13, put_r14, put_w14, put_r15, put_w15, put_ra, put_r8, put_r0, put_rt, put_wa, u1, u2, hn8]); omega) (fun w33 => ?_) (fun w33 => ?_))
              · dsimp only [jpush]
                (try simp (disch := omega) only [put_r6, put_w6, put_r7, put_w7, put_r9, put_w9, put_r10, put_w10, put_r11, put_w11, put_r12, put_w12, put_r13, put_w13, put_r14, put_w14, put_r15, put_w15, put_ra, put_r8, put_r0, put_rt, put_wa, u1, u2, hn8] at w33)
                (try simp (disch := omega) only [put_r6, put_w6, put_r7, put_w7, put_r9, put_w9, put_r10, put_w10, put_r11, put_w11, put_r12, put_w12, put_r13, put_w13, put_r14, put_w14, put_r15, put_w15, put_ra, put_r8, put_r0, put_rt, put_wa, u1, u2, hn8])
                first
                 | (exfalso; omega)
                 | (skip
                    refine e_if_eq 39 46 dX12_readLine_36 (by decide) (by decide) rfl (fun h => absurd h (by decide)) (fun _ => ?_)
                    refine e_aload_n (i := 0) 40 dX12_readLine_39 rfl rfl rfl ?_
                    refine e_callV 43 mt_yX12_readOnce mv_yX12_readOnce wd_1444 (by decide) dX12_readLine_40 at_928 jc_12 rfl rfl rfl (Nat.le_of_ble_eq_true rfl) (jroom (by decide)) rfl (m_once hT hI (by (try simp (disch := omega) only [put_r6, put_w6, put_r7, put_w7, put_r9, put_w9, put_r10, put_w10, put_r11, put_w11, put_r12, put_w12, put_r13, put_w13, put_r14, put_w14, put_r15, put_w15, put_ra, put_r8, put_r0, put_rt, put_wa, u1, u2, hn8]); omega) (by (try simp (disch := omega) only [put_r6, put_w6, put_r7, put_w7, put_r9, put_w9, put_r10, put_w10, put_r11, put_w11, put_r12, put_w12, put_r13, put_w13, put_r14, put_w14, put_r15, put_w15, put_ra, put_r8, put_r0, put_rt, put_wa, u1, u2, hn8]); omega) ?_)
                    dsimp only [jpush]
                    (try simp (disch := omega) only [put_r6, put_w6, put_r7, put_w7, put_r9, put_w9, put_r10, put_w10, put_r11, put_w11, put_r12, put_w12, put_r13, put_w13, put_r14, put_w14, put_r15, put_w15, put_ra, put_r8, put_r0, put_rt, put_wa, u1, u2, hn8])
                    obtain ⟨s1, e1⟩ : ∃ z, z = pL1 (M 931) n s := ⟨_, rfl⟩
                    have g1 := pg_l1 hT hI hw
                    rw [← e1] at g1
                    have q1 := g1.1.rng
                    have d1 : pOnce (M 931) n s = s1 := by
                      rw [e1, pL1, if_neg (by omega), if_pos (by omega)]
                    rw [d1]
                    refine e_goto 51 dX12_readLine_43 (by decide) ?_
                    refine e_aload_n (i := 0) 52 dX12_readLine_51 rfl rfl rfl ?_
                    refine e_bipush 54 dX12_readLine_52 (by decide) rfl ?_
                    refine e_callV 57 mt_yX12_musts mv_yX12_musts wd_1434 (by decide) dX12_readLine_54 at_928 jc_12 rfl rfl rfl (Nat.le_of_ble_eq_true rfl) (jroom (by decide)) rfl (m_musts hT (by (try simp (disch := omega) only [put_r6, put_w6, put_r7, put_w7, put_r9, put_w9, put_r10, put_w10, put_r11, put_w11, put_r12, put_w12, put_r13, put_w13, put_r14, put_w14, put_r15, put_w15, put_ra, put_r8, put_r0, put_rt, put_wa, u1, u2, hn8]); omega) (by (try simp (disch := omega) only [put_r6, put_w6, put_r7, put_w7, put_r9, put_w9, put_r10, put_w10, put_r11, put_w11, put_r12, put_w12, put_r13, put_w13, put_r14, put_w14, put_r15, put_w15, put_ra, put_r8, put_r0, put_rt, put_wa, u1, u2, hn8]); omega) ?_)
                    dsimp only [jpush]
                    (try simp (disch := omega) only [put_r6, put_w6, put_r7, put_w7, put_r9, put_w9, put_r10, put_w10, put_r11, put_w11, put_r12, put_w12, put_r13, put_w13, put_r14, put_w14, put_r15, put_w15, put_ra, put_r8, put_r0, put_rt, put_wa, u1, u2, hn8])
                    obtain ⟨s2, e2⟩ : ∃ z, z = pL2 (M 931) n s := ⟨_, rfl⟩
                    have d2 : pMust (M 931) n 22 s1 = s2 := by
                      rw [e2, pL2, ← e1]
                    rw [d2]
                    have a31b := line_31 (M := M) (n := n) (s := s)
                    have hpb := (pg_line hT hI hw hk).1.1
                    have hpp : (pLine (M 931) n s).1 = s2.1 := by rw [e2]; rfl
                    rw [← e2] at a31b
                    refine e_aload_n (i := 0) 58 dX12_readLine_57 rfl rfl rfl ?_
                    refine e_getr (j := 4) 61 fl_12_24 dX12_readLine_58 at_928 rfl rfl tp_928_4 rfl ?_
                    refine e_bipush 63 dX12_readLine_61 (by decide) rfl ?_
                    refine e_dup2 64 dX12_readLine_63 rfl rfl rfl ?_
                    refine e_iald 65 dX12_readLine_64 ar_932 (by decide) (by decide) rfl (fun r64 => ?_)
                    simp (disch := omega) only [put_r6, put_w6, put_r7, put_w7, put_r9, put_w9, put_r10, put_w10, put_r11, put_w11, put_r12, put_w12, put_r13, put_w13, put_r14, put_w14, put_r15, put_w15, put_ra, put_r8, put_r0, put_rt, put_wa, u1, u2, hn8] at r64 ⊢
                    refine e_iconst 66 dX12_readLine_65 rfl ?_
                    refine e_iadd 67 dX12_readLine_66 rfl ?_
                    refine e_iast 68 dX12_readLine_67 ar_932 (by decide) (by decide) (by omega) rfl ?_
                    refine e_vret dX12_readLine_68 ?_
                    rw [pLine, ← e2] at h
                    simp (disch := omega) only [put_r6, put_w6, put_r7, put_w7, put_r9, put_w9, put_r10, put_w10, put_r11, put_w11, put_r12, put_w12, put_r13, put_w13, put_r14, put_w14, put_r15, put_w15, put_ra, put_r8, put_r0, put_rt, put_wa, u1, u2, hn8]
                    exact h)
              · dsimp only [jpush]
                (try simp (disch := omega) only [put_r6, put_w6, put_r7, put_w7, put_r9, put_w9, put_r10, put_w10, put_r11, put_w11, put_r12, put_w12, put_r13, put_w13, put_r14, put_w14, put_r15, put_w15, put_ra, put_r8, put_r0, put_rt, put_wa, u1, u2, hn8] at w33)
                (try simp (disch := omega) only [put_r6, put_w6, put_r7, put_w7, put_r9, put_w9, put_r10, put_w10, put_r11, put_w11, put_r12, put_w12, put_r13, put_w13, put_r14, put_w14, put_r15, put_w15, put_ra, put_r8, put_r0, put_rt, put_wa, u1, u2, hn8])
                first
                 | (exfalso; omega)
                 | (skip
                    refine e_if_eq 39 46 dX12_readLine_36 (by decide) (by decide) rfl (fun _ => ?_) (fun h => absurd h (by decide))
                    refine e_aload_n (i := 0) 47 dX12_readLine_46 rfl rfl rfl ?_
                    refine e_iconst 48 dX12_readLine_47 rfl ?_
                    refine e_callV 51 mt_yX12_fails mv_yX12_fails wd_1426 (by decide) dX12_readLine_48 at_928 jc_12 rfl rfl rfl (Nat.le_of_ble_eq_true rfl) (jroom (by decide)) rfl (m_fails (by (try simp (disch := omega) only [put_r6, put_w6, put_r7, put_w7, put_r9, put_w9, put_r10, put_w10, put_r11, put_w11, put_r12, put_w12, put_r13, put_w13, put_r14, put_w14, put_r15, put_w15, put_ra, put_r8, put_r0, put_rt, put_wa, u1, u2, hn8]); omega) ?_)
                    dsimp only [jpush]
                    (try simp (disch := omega) only [put_r6, put_w6, put_r7, put_w7, put_r9, put_w9, put_r10, put_w10, put_r11, put_w11, put_r12, put_w12, put_r13, put_w13, put_r14, put_w14, put_r15, put_w15, put_ra, put_r8, put_r0, put_rt, put_wa, u1, u2, hn8])
                    obtain ⟨s1, e1⟩ : ∃ z, z = pL1 (M 931) n s := ⟨_, rfl⟩
                    have g1 := pg_l1 hT hI hw
                    rw [← e1] at g1
                    have q1 := g1.1.rng
                    have d1 : pFail 2 s = s1 := by
                      rw [e1, pL1, if_neg (by omega), if_neg (by omega)]
                    rw [d1]
                    refine e_aload_n (i := 0) 52 dX12_readLine_51 rfl rfl rfl ?_
                    refine e_bipush 54 dX12_readLine_52 (by decide) rfl ?_
                    refine e_callV 57 mt_yX12_musts mv_yX12_musts wd_1434 (by decide) dX12_readLine_54 at_928 jc_12 rfl rfl rfl (Nat.le_of_ble_eq_true rfl) (jroom (by decide)) rfl (m_musts hT (by (try simp (disch := omega) only [put_r6, put_w6, put_r7, put_w7, put_r9, put_w9, put_r10, put_w10, put_r11, put_w11, put_r12, put_w12, put_r13, put_w13, put_r14, put_w14, put_r15, put_w15, put_ra, put_r8, put_r0, put_rt, put_wa, u1, u2, hn8]); omega) (by (try simp (disch := omega) only [put_r6, put_w6, put_r7, put_w7, put_r9, put_w9, put_r10, put_w10, put_r11, put_w11, put_r12, put_w12, put_r13, put_w13, put_r14, put_w14, put_r15, put_w15, put_ra, put_r8, put_r0, put_rt, put_wa, u1, u2, hn8]); omega) ?_)
                    dsimp only [jpush]
                    (try simp (disch := omega) only [put_r6, put_w6, put_r7, put_w7, put_r9, put_w9, put_r10, put_w10, put_r11, put_w11, put_r12, put_w12, put_r13, put_w13, put_r14, put_w14, put_r15, put_w15, put_ra, put_r8, put_r0, put_rt, put_wa, u1, u2, hn8])
                    obtain ⟨s2, e2⟩ : ∃ z, z = pL2 (M 931) n s := ⟨_, rfl⟩
                    have d2 : pMust (M 931) n 22 s1 = s2 := by
                      rw [e2, pL2, ← e1]
                    rw [d2]
                    have a31b := line_31 (M := M) (n := n) (s := s)
                    have hpb := (pg_line hT hI hw hk).1.1
                    have hpp : (pLine (M 931) n s).1 = s2.1 := by rw [e2]; rfl
                    rw [← e2] at a31b
                    refine e_aload_n (i := 0) 58 dX12_readLine_57 rfl rfl rfl ?_
                    refine e_getr (j := 4) 61 fl_12_24 dX12_readLine_58 at_928 rfl rfl tp_928_4 rfl ?_
                    refine e_bipush 63 dX12_readLine_61 (by decide) rfl ?_
                    refine e_dup2 64 dX12_readLine_63 rfl rfl rfl ?_
                    refine e_iald 65 dX12_readLine_64 ar_932 (by decide) (by decide) rfl (fun r64 => ?_)
                    simp (disch := omega) only [put_r6, put_w6, put_r7, put_w7, put_r9, put_w9, put_r10, put_w10, put_r11, put_w11, put_r12, put_w12, put_r13, put_w13, put_r14, put_w14, put_r15, put_w15, put_ra, put_r8, put_r0, put_rt, put_wa, u1, u2, hn8] at r64 ⊢
                    refine e_iconst 66 dX12_readLine_65 rfl ?_
                    refine e_iadd 67 dX12_readLine_66 rfl ?_
                    refine e_iast 68 dX12_readLine_67 ar_932 (by decide) (by decide) (by omega) rfl ?_
                    refine e_vret dX12_readLine_68 ?_
                    rw [pLine, ← e2] at h
                    simp (disch := omega) only [put_r6, put_w6, put_r7, put_w7, put_r9, put_w9, put_r10, put_w10, put_r11, put_w11, put_r12, put_w12, put_r13, put_w13, put_r14, put_w14, put_r15, put_w15, put_ra, put_r8, put_r0, put_rt, put_wa, u1, u2, hn8]
                    exact h)))

