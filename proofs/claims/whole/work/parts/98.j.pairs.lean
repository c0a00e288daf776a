/-! BEST *** the reference, whole; PAIRS: best -/
theorem srch_0 {M Y : jM} {L : List Int} {row : Int} {N : Nat} (hB : BF M L row N) (hU : LooseU M Y L) (hR : RoomU M Y (M 929 1761)) : SrchS M L row N (jset Y 934 0 (-1)) 0 (-1) 0 ∧ M 929 1761 - jset Y 934 0 (-1) 934 ((0 : Nat) : Int) ≤ ((M 929 1761 + 1).toNat : Nat) := by
  have e : jset Y 934 0 (-1) 934 ((0 : Nat) : Int) = -1 := jset_same
  have hN := hB.2.2.1
  refine ⟨⟨Or.inl ⟨e, hU.oth (by omega), fun i a b => by omega, fun r a b => ?_, rfl⟩, Or.inl ⟨rfl, fun y hy h => ?_⟩, by omega⟩, by omega⟩
  · rw [row_k (by omega), hR r a b]
    exact (Int.sub_zero _).symm
  · have q := bF.rng hB hy (k := ((0 : Nat) : Int)) (by omega) (by omega)
    rcases h with ⟨i, a, _⟩ | ⟨_, b⟩ <;> omega
theorem srch_end {M Y Z : jM} {L : List Int} {row v s : Int} {N : Nat} (h : SrchX M L row N Y Z 0 v s) : ((v = -1 ∧ ∀ y, ¬ bF M L N y) ∨ (0 ≤ v ∧ v ≤ 100000 ∧ LexMin (bSz M L) (bW M row) (bRm M) (bSt M) N (M 929 1761).toNat (Z 935) ∧ v = bC M row N (Z 935))) := by
  obtain ⟨h1, h2, h3, t, h4, h5, h6⟩ := h
  have hb : ∀ y, bF M L N y → Bef ((0 : Nat) : Int) t y := fun y hy => Or.inr ⟨fun k p q => by omega, h6 y hy⟩
  rcases h5 with ⟨a, c⟩ | ⟨a, c, d, f, g⟩
  · exact Or.inl ⟨a, fun y hy => c y hy (hb y hy)⟩
  · exact Or.inr ⟨by omega, h3.2, ⟨c, fun z hz => g z hz (hb z hz)⟩, f⟩
def bAns (M : jM) (L : List Int) (row : Int) (N : Nat) (n i v : Int) : Prop := (v = -1 ∧ ∀ y, ¬ bF M L N y) ∨ ∃ y, LexMin (bSz M L) (bW M row) (bRm M) (bSt M) N (M 929 1761).toNat y ∧ v = if i = -1 then bC M row N y else if 0 ≤ i ∧ i < n then y i else -1
theorem bAns_of {M Z : jM} {L : List Int} {row n i v a : Int} {N : Nat} (hv : ((v = -1 ∧ ∀ y, ¬ bF M L N y) ∨ (0 ≤ v ∧ v ≤ 100000 ∧ LexMin (bSz M L) (bW M row) (bRm M) (bSt M) N (M 929 1761).toNat (Z 935) ∧ v = bC M row N (Z 935)))) (ha : (v = -1 ∧ a = v) ∨ (v ≠ -1 ∧ i = -1 ∧ a = v) ∨ (v ≠ -1 ∧ i ≠ -1 ∧ (0 ≤ i ∧ i < n) ∧ a = Z 935 i) ∨ (v ≠ -1 ∧ i ≠ -1 ∧ ¬ (0 ≤ i ∧ i < n) ∧ a = -1)) : bAns M L row N n i a := by
  rcases hv with ⟨q, hz⟩ | ⟨q, _, hl, hc⟩
  · exact Or.inl ⟨by omega, hz⟩
  · refine Or.inr ⟨Z 935, hl, ?_⟩
    rcases ha with ⟨h1, _⟩ | ⟨_, h2, h3⟩ | ⟨_, h2, h3, h4⟩ | ⟨_, h2, h3, h4⟩
    · omega
    · rw [if_pos h2, h3, hc]
    · rw [if_neg h2, if_pos h3, h4]
    · rw [if_neg h2, if_neg h3, h4]
theorem bAns.fr {M Y : jM} {L : List Int} {row n i v : Int} {N : Nat} (hS : Scr M Y) (h : bAns Y L row N n i v) : bAns M L row N n i v := by
  have e9 := hS.row
  have e48 : Y 948 = M 948 := funext fun q => hS 948 q (by omega) (by omega)
  have e1 : bSz Y L = bSz M L := by
    show (fun j : Int => sizeOfP (Y 929) (L.getD j.toNat 0)) = _
    rw [e9]
  have e2 : bRm Y = bRm M := by
    show (fun r => rLeft (Y 929) r (Y 929 709).toNat) = _
    rw [e9]
  have e3 : bSt Y = bSt M := by
    show (fun r => Y 929 (1772 + r)) = _
    rw [e9]
  have e4 : bW Y row = bW M row := by
    show (fun j => Y 948 (40 * row + j)) = _
    rw [e48]
  unfold bAns at h ⊢
  unfold bF bC at h ⊢
  rw [e1, e2, e3, e4, e9] at h
  exact h
theorem BF_of {M : jM} {row n : Int} (hC : CR M) (hrow : 0 ≤ row ∧ row ≤ 3) (hn : 1 ≤ n ∧ n ≤ 7) (hl : ¬ (((looseL (M 929) n.toNat (M 929 709).toNat).length : Nat) : Int) < n) (hw : ∀ j : Int, 0 ≤ j → j < n → 0 ≤ M 948 (40 * row + j) ∧ M 948 (40 * row + j) ≤ 99) : BF M (looseL (M 929) n.toNat (M 929 709).toNat) row n.toNat := by
  have h := looseL_len (a := M 929) (n := n.toNat) (M 929 709).toNat
  refine ⟨hC, by omega, by omega, hrow, fun i hi => ?_, fun j a b => hw j a (by omega)⟩
  have q := looseL_mem (a := M 929) (n := n.toNat) _ _ (getD_mem (l := (looseL (M 929) n.toNat (M 929 709).toNat)) (i := i) (by omega))
  omega
theorem m_racks {M Y : jM} {Q : Int → jM → Prop} {L : List Int} {row nn : Int} {N : Nat} (hB : BF M L row N) (hnn : nn = N) (hU : LooseU M Y L) (h : ∀ (Z : jM) (v : Int), Scr M Z → ((v = -1 ∧ ∀ y, ¬ bF M L N y) ∨ (0 ≤ v ∧ v ≤ 100000 ∧ LexMin (bSz M L) (bW M row) (bRm M) (bSt M) N (M 929 1761).toNat (Z 935) ∧ v = bC M row N (Z 935))) → Q v Z) : jCt yX12_findsRacks cX12_findsRacks 9 (some .int) 3 [jR 928, jI row, jI nn] Y Q := by
  refine jCt_of mt_yX12_findsRacks (Nat.le_of_ble_eq_true rfl) (fun X => ?_)
  have hC := hB.1
  have hg := hC.rng
  have hN := hB.2.2.1
  refine e_iconst 1 dX12_findsRacks_0 rfl ?_
  refine e_istore_n (i := 3) (lsn := [(3, _), (0, _), (1, _), (2, _)]) 2 dX12_findsRacks_1 rfl (by decide) rfl rfl ?_
  refine e_ls (ls2 := [(0, _), (1, _), (2, _), (3, _)]) rfl ?_
  refine lm_room hC (Y0 := Y) (fun Y1 hS1 hO1 hR1 => ?_) (M 929 1761).toNat 0 (by omega) (by omega) Y hU.1 (fun _ _ => rfl) (fun q a b => by omega)
  have hU1 : LooseU M Y1 L := ⟨hS1, fun i hi => by
    rw [hO1 933 (by omega)]
    exact hU.2 i hi⟩
  have h0 := srch_0 hB hU1 hR1
  refine e_iconst 32 dX12_findsRacks_31 rfl ?_
  refine e_istore_n (i := 3) (lsn := [(3, _), (0, _), (1, _), (2, _)]) 33 dX12_findsRacks_32 rfl (by decide) rfl rfl ?_
  refine e_iconst 34 dX12_findsRacks_33 rfl ?_
  refine e_istore (lsn := [(4, _), (3, _), (0, _), (1, _), (2, _)]) 36 dX12_findsRacks_34 (by decide) rfl rfl ?_
  refine e_iconst 37 dX12_findsRacks_36 rfl ?_
  refine e_istore (lsn := [(5, _), (4, _), (3, _), (0, _), (1, _), (2, _)]) 39 dX12_findsRacks_37 (by decide) rfl rfl ?_
  refine e_aload_n (i := 0) 40 dX12_findsRacks_39 rfl rfl rfl ?_
  refine e_getr (j := 19) 43 fl_12_33 dX12_findsRacks_40 at_928 rfl rfl tp_928_19 rfl ?_
  refine e_iconst 44 dX12_findsRacks_43 rfl ?_
  refine e_iconst 45 dX12_findsRacks_44 rfl ?_
  refine e_iast 46 dX12_findsRacks_45 ar_934 (by decide) (by decide) (by decide) rfl ?_
  refine e_ls (ls2 := [(0, _), (1, _), (2, _), (3, _), (4, _), (5, _)]) rfl ?_
  refine lm_lev hB hnn N 0 (by omega) (by omega) _ _ _ _ _ rfl h0.2 h0.1 (fun Z v s2 a ha hX => ?_)
  refine e_iload 48 dX12_findsRacks_46 rfl rfl ?_
  refine e_if_lt 51 315 dX12_findsRacks_48 (by omega) (by decide) rfl (fun b48 => ?_) (fun b48 => ?_)
  · skip
    refine e_iload_n (i := 3) 316 dX12_findsRacks_315 rfl rfl rfl ?_
    refine e_iret dX12_findsRacks_316 ?_
    exact h Z v hX.1.1.1 (srch_end hX)
  · omega

theorem m_best {row n i : Int} {M : jM} {Q : Int → jM → Prop} (hI : Inv M) (ht : M 928 0 = 0) (hrow : -2147483648 ≤ row ∧ row ≤ 2147483647) (hn0 : -2147483648 ≤ n ∧ n ≤ 2147483647) (hi : -2147483648 ≤ i ∧ i ≤ 2147483647) (h2 : row < 0 ∨ 3 < row → Q (-2) M) (h3 : (0 ≤ row ∧ row ≤ 3) ∧ (n < 1 ∨ 7 < n) → Q (-3) M) (h5 : ((0 ≤ row ∧ row ≤ 3) ∧ (1 ≤ n ∧ n ≤ 7)) ∧ (((looseL (M 929) n.toNat (M 929 709).toNat).length : Nat) : Int) < n → ∀ Y : jM, Scr M Y → Q (-5) Y) (h6 : ((0 ≤ row ∧ row ≤ 3) ∧ (1 ≤ n ∧ n ≤ 7)) ∧ ¬ (((looseL (M 929) n.toNat (M 929 709).toNat).length : Nat) : Int) < n → M 946 row = -1 → ∀ Y : jM, Scr M Y → Q (-6) Y) (h7 : ((0 ≤ row ∧ row ≤ 3) ∧ (1 ≤ n ∧ n ≤ 7)) ∧ ¬ (((looseL (M 929) n.toNat (M 929 709).toNat).length : Nat) : Int) < n → M 946 row ≠ -1 → M 947 row < n → ∀ Y : jM, Scr M Y → Q (-7) Y) (h8 : ((0 ≤ row ∧ row ≤ 3) ∧ (1 ≤ n ∧ n ≤ 7)) ∧ ¬ (((looseL (M 929) n.toNat (M 929 709).toNat).length : Nat) : Int) < n → M 946 row ≠ -1 → n ≤ M 947 row → (∃ j : Int, 0 ≤ j ∧ j < n ∧ ¬ (0 ≤ M 948 (40 * row + j) ∧ M 948 (40 * row + j) ≤ 99)) → ∀ Y : jM, Scr M Y → Q (-3) Y) (h0 : ((0 ≤ row ∧ row ≤ 3) ∧ (1 ≤ n ∧ n ≤ 7)) ∧ ¬ (((looseL (M 929) n.toNat (M 929 709).toNat).length : Nat) : Int) < n → M 946 row ≠ -1 → n ≤ M 947 row → (∀ j : Int, 0 ≤ j → j < n → 0 ≤ M 948 (40 * row + j) ∧ M 948 (40 * row + j) ≤ 99) → ∀ (Y : jM) (v : Int), Scr M Y → bAns M (looseL (M 929) n.toNat (M 929 709).toNat) row n.toNat n i v → Q v Y) : jCt yX12_best cX12_best 5 (some .int) 4 [jR 928, jI row, jI n, jI i] M Q := by
  refine jCt_of mt_yX12_best (Nat.le_of_ble_eq_true rfl) (fun X => ?_)
  have hC := hI.cr
  have hn := hC.cnt
  have hg := hC.rng
  have hll := looseL_len (a := M 929) (n := n.toNat) (M 929 709).toNat
  refine e_aload_n (i := 0) 1 dX12_best_0 rfl rfl rfl ?_
  refine e_iconst 2 dX12_best_1 rfl ?_
  refine e_put0 (j := 0) 5 fl_12_1 dX12_best_2 at_928 rfl rfl rfl (by decide) ht rfl ?_
  refine e_iload_n (i := 1) 6 dX12_best_5 rfl rfl rfl ?_
  refine e_i2l 7 dX12_best_6 (by omega) rfl ?_
  refine e_lconst0 8 dX12_best_7 rfl ?_
  refine e_ldc2 (z := (3)) 11 (ix := 159) wd_1442 (by decide) dX12_best_8 rfl ?_
  refine e_callS 14 mt_yX12_within ms_yX12_within wd_1390 (by decide) dX12_best_11 rfl rfl (Nat.le_of_ble_eq_true rfl) (jroom (by decide)) rfl (m_within (by omega) (by omega) (by omega) (fun w11 => ?_) (fun w11 => ?_))
  · dsimp only [jpush]
    refine e_if_ne 17 20 dX12_best_14 (by decide) (by decide) rfl (fun _ => ?_) (fun h => absurd h (by decide))
    refine e_iload_n (i := 2) 21 dX12_best_20 rfl rfl rfl ?_
    refine e_i2l 22 dX12_best_21 (by omega) rfl ?_
    refine e_lconst1 23 dX12_best_22 rfl ?_
    refine e_ldc2 (z := (7)) 26 (ix := 296) wd_1662 (by decide) dX12_best_23 rfl ?_
    refine e_callS 29 mt_yX12_within ms_yX12_within wd_1390 (by decide) dX12_best_26 rfl rfl (Nat.le_of_ble_eq_true rfl) (jroom (by decide)) rfl (m_within (by omega) (by omega) (by omega) (fun w26 => ?_) (fun w26 => ?_))
    · dsimp only [jpush]
      refine e_if_ne 32 35 dX12_best_29 (by decide) (by decide) rfl (fun _ => ?_) (fun h => absurd h (by decide))
      refine e_aload_n (i := 0) 36 dX12_best_35 rfl rfl rfl ?_
      refine e_iload_n (i := 2) 37 dX12_best_36 rfl rfl rfl ?_
      refine e_callV 40 mt_yX12_findsLoose mv_yX12_findsLoose wd_1663 (by decide) dX12_best_37 at_928 jc_12 rfl rfl rfl (Nat.le_of_ble_eq_true rfl) (jroom (by decide)) rfl (m_loose hC (n := n.toNat) (by omega) (by omega) (fun w37 Y37 hU37 => ?_) (fun w37 Y37 hS37 => ?_))
      · dsimp only [jpush]
        refine e_if_ne 43 46 dX12_best_40 (by decide) (by decide) rfl (fun _ => ?_) (fun h => absurd h (by decide))
        have hY := hU37.1
        have e46 : Y37 946 row = M 946 row := hY 946 row (by omega) (by omega)
        have e47 : Y37 947 row = M 947 row := hY 947 row (by omega) (by omega)
        have e48 : Y37 948 = M 948 := funext fun q => hY 948 q (by omega) (by omega)
        have hw := hI.2.2.2.2.2.1 row (by omega) (by omega)
        have hw2 : (M (895 + 2 * row) 0 = -1 ∧ M 946 row = -1) ∨ ((0 ≤ M 946 row ∧ M 946 row ≤ 3) ∧ (0 ≤ M 947 row ∧ M 947 row ≤ 40) ∧ M (895 + 2 * row) 0 = M 947 row) := hw.imp id (fun h => ⟨h.1, h.2.1, h.2.2.1⟩)
        refine e_aload_n (i := 0) 47 dX12_best_46 rfl rfl rfl ?_
        refine e_getr (j := 31) 50 fl_12_69 dX12_best_47 at_928 rfl rfl tp_928_31 rfl ?_
        refine e_iload_n (i := 1) 51 dX12_best_50 rfl rfl rfl ?_
        refine e_iald 52 dX12_best_51 ar_946 (by omega) (by omega) rfl (fun r51 => ?_)
        refine e_iconst 53 dX12_best_52 rfl ?_
        refine e_icmp_ne 56 59 dX12_best_53 (by omega) (by decide) (by decide) rfl (fun b53 => ?_) (fun b53 => ?_)
        · skip
          refine e_aload_n (i := 0) 60 dX12_best_59 rfl rfl rfl ?_
          refine e_getr (j := 32) 63 fl_12_72 dX12_best_60 at_928 rfl rfl tp_928_32 rfl ?_
          refine e_iload_n (i := 1) 64 dX12_best_63 rfl rfl rfl ?_
          refine e_iald 65 dX12_best_64 ar_947 (by omega) (by omega) rfl (fun r64 => ?_)
          refine e_iload_n (i := 2) 66 dX12_best_65 rfl rfl rfl ?_
          refine e_icmp_ge 69 72 dX12_best_66 (by omega) (by omega) (by decide) rfl (fun b66 => ?_) (fun b66 => ?_)
          · skip
            refine e_iconst 73 dX12_best_72 rfl ?_
            refine e_istore (lsn := [(4, _), (0, _), (1, _), (2, _), (3, _)]) 75 dX12_best_73 (by decide) rfl rfl ?_
            refine e_ls (ls2 := [(0, _), (1, _), (2, _), (3, _), (4, _)]) rfl ?_
            refine lm_wt (by omega) (by omega) (fun ⟨j, a, c, d⟩ => h8 ⟨by omega, by omega⟩ (by omega) (by omega) ⟨j, a, c, by rw [← e48]; exact d⟩ Y37 hY) (fun hwt0 => ?_) n.toNat 0 (by omega) (by omega) (fun j a c => by omega)
            have hwt : ∀ j : Int, 0 ≤ j → j < n → 0 ≤ M 948 (40 * row + j) ∧ M 948 (40 * row + j) ≤ 99 := fun j a c => by
              rw [← e48]
              exact hwt0 j a c
            have hBF := BF_of hC (row := row) (n := n) (by omega) (by omega) (by omega) hwt
            refine e_aload_n (i := 0) 113 dX12_best_112 rfl rfl rfl ?_
            refine e_iload_n (i := 1) 114 dX12_best_113 rfl rfl rfl ?_
            refine e_iload_n (i := 2) 115 dX12_best_114 rfl rfl rfl ?_
            refine e_callV 118 mt_yX12_findsRacks mv_yX12_findsRacks wd_1667 (by decide) dX12_best_115 at_928 jc_12 rfl rfl rfl (Nat.le_of_ble_eq_true rfl) (jroom (by decide)) rfl (m_racks hBF (by omega) hU37 (fun Z115 v115 hS115 hV115 => ?_))
            dsimp only [jpush]
            refine e_istore (lsn := [(4, _), (0, _), (1, _), (2, _), (3, _)]) 120 dX12_best_118 (by decide) rfl rfl ?_
            refine e_iload 122 dX12_best_120 rfl rfl ?_
            refine e_iconst 123 dX12_best_122 rfl ?_
            refine e_icmp_eq 126 131 dX12_best_123 (by omega) (by decide) (by decide) rfl (fun b123 => ?_) (fun b123 => ?_)
            · skip
              refine e_iload 133 dX12_best_131 rfl rfl ?_
              refine e_goto 159 dX12_best_133 (by decide) ?_
              refine e_iret dX12_best_159 ?_
              exact h0 ⟨by omega, by omega⟩ (by omega) (by omega) hwt _ _ hS115 (bAns_of hV115 (by omega))
            · skip
              refine e_iload_n (i := 3) 127 dX12_best_126 rfl rfl rfl ?_
              refine e_iconst 128 dX12_best_127 rfl ?_
              refine e_icmp_ne 131 136 dX12_best_128 (by omega) (by decide) (by decide) rfl (fun b128 => ?_) (fun b128 => ?_)
              · skip
                refine e_iload_n (i := 3) 137 dX12_best_136 rfl rfl rfl ?_
                refine e_i2l 138 dX12_best_137 (by omega) rfl ?_
                refine e_lconst0 139 dX12_best_138 rfl ?_
                refine e_iload_n (i := 2) 140 dX12_best_139 rfl rfl rfl ?_
                refine e_iconst 141 dX12_best_140 rfl ?_
                refine e_isub 142 dX12_best_141 rfl ?_
                refine e_i2l 143 dX12_best_142 (by omega) rfl ?_
                refine e_callS 146 mt_yX12_within ms_yX12_within wd_1390 (by decide) dX12_best_143 rfl rfl (Nat.le_of_ble_eq_true rfl) (jroom (by decide)) rfl (m_within (by omega) (by omega) (by omega) (fun w143 => ?_) (fun w143 => ?_))
                · dsimp only [jpush]
                  refine e_if_eq 149 158 dX12_best_146 (by decide) (by decide) rfl (fun h => absurd h (by decide)) (fun _ => ?_)
                  refine e_aload_n (i := 0) 150 dX12_best_149 rfl rfl rfl ?_
                  refine e_getr (j := 20) 153 fl_12_36 dX12_best_150 at_928 rfl rfl tp_928_20 rfl ?_
                  refine e_iload_n (i := 3) 154 dX12_best_153 rfl rfl rfl ?_
                  refine e_iald 155 dX12_best_154 ar_935 (by omega) (by omega) rfl (fun r154 => ?_)
                  refine e_goto 159 dX12_best_155 (by decide) ?_
                  refine e_iret dX12_best_159 ?_
                  exact h0 ⟨by omega, by omega⟩ (by omega) (by omega) hwt _ _ hS115 (bAns_of hV115 (by omega))
                · dsimp only [jpush]
                  refine e_if_eq 149 158 dX12_best_146 (by decide) (by decide) rfl (fun _ => ?_) (fun h => absurd h (by decide))
                  refine e_iconst 159 dX12_best_158 rfl ?_
                  refine e_iret dX12_best_159 ?_
                  exact h0 ⟨by omega, by omega⟩ (by omega) (by omega) hwt _ _ hS115 (bAns_of hV115 (by omega))
              · skip
                refine e_iload 133 dX12_best_131 rfl rfl ?_
                refine e_goto 159 dX12_best_133 (by decide) ?_
                refine e_iret dX12_best_159 ?_
                exact h0 ⟨by omega, by omega⟩ (by omega) (by omega) hwt _ _ hS115 (bAns_of hV115 (by omega))
          · skip
            refine e_bipush 71 dX12_best_69 (by decide) rfl ?_
            refine e_iret dX12_best_71 ?_
            exact h7 ⟨by omega, by omega⟩ (by omega) (by omega) Y37 hY
        · skip
          refine e_bipush 58 dX12_best_56 (by decide) rfl ?_
          refine e_iret dX12_best_58 ?_
          exact h6 ⟨by omega, by omega⟩ (by omega) Y37 hY
      · dsimp only [jpush]
        refine e_if_ne 43 46 dX12_best_40 (by decide) (by decide) rfl (fun h => absurd h (by decide)) (fun _ => ?_)
        refine e_bipush 45 dX12_best_43 (by decide) rfl ?_
        refine e_iret dX12_best_45 ?_
        exact h5 ⟨by omega, by omega⟩ Y37 hS37
    · dsimp only [jpush]
      refine e_if_ne 32 35 dX12_best_29 (by decide) (by decide) rfl (fun h => absurd h (by decide)) (fun _ => ?_)
      refine e_bipush 34 dX12_best_32 (by decide) rfl ?_
      refine e_iret dX12_best_34 ?_
      exact h3 (by omega)
  · dsimp only [jpush]
    refine e_if_ne 17 20 dX12_best_14 (by decide) (by decide) rfl (fun h => absurd h (by decide)) (fun _ => ?_)
    refine e_bipush 19 dX12_best_17 (by decide) rfl ?_
    refine e_iret dX12_best_19 ?_
    exact h2 (by omega)

theorem p_best {M : jM} (hI : Inv M) {row : Int} (hrow : -2147483648 ≤ row ∧ row ≤ 2147483647) {n : Int} (hn : -2147483648 ≤ n ∧ n ≤ 2147483647) {i : Int} (hi : -2147483648 ≤ i ∧ i ≤ 2147483647) : jCt yX11_best cX11_best 4 (some .int) 5 [jR 0, jI row, jI n, jI i] M (fun z M1 => jCt yX12_best cX12_best 5 (some .int) 4 [jR 928, jI row, jI n, jI i] M1 (fun z2 M2 => z = z2 ∧ Inv M2)) := by
  have hC := hI.cr
  have hlen := looseL_len (a := M 929) (n := n.toNat) (M 929 709).toNat
  have fr : ∀ Y : jM, Scr M Y → Inv Y ∧ Y 929 = M 929 ∧ Y 946 = M 946 ∧ Y 947 = M 947 ∧ Y 948 = M 948 := fun Y o => ⟨hI.scr o, o.row, funext fun q => o 946 q (by omega) (by omega), funext fun q => o 947 q (by omega) (by omega), funext fun q => o 948 q (by omega) (by omega)⟩
  refine c_best hI hrow hn hi (fun w => ?_) (fun w => ?_) (fun w Y hY => ?_) (fun w w2 Y hY => ?_) (fun w w2 w3 Y hY => ?_) (fun w w2 w3 w4 Y hY => ?_) (fun w w2 w3 w4 Y v hY hv => ?_)
  · obtain ⟨hIY, e9, e46, e47, e48⟩ := fr M Scr.rf
    refine m_best hIY hIY.1 hrow hn hi
      (fun q1 => ⟨rfl, hIY⟩)
      (fun q1 => by
        exfalso
        (try simp only [e9, e46, e47, e48] at q1)
        omega)
      (fun q1 => by
        exfalso
        (try simp only [e9, e46, e47, e48] at q1)
        omega)
      (fun q1 q2 => by
        exfalso
        (try simp only [e9, e46, e47, e48] at q1 q2)
        omega)
      (fun q1 q2 q3 => by
        exfalso
        (try simp only [e9, e46, e47, e48] at q1 q2 q3)
        omega)
      (fun q1 q2 q3 q4 => by
        exfalso
        (try simp only [e9, e46, e47, e48] at q1 q2 q3 q4)
        omega)
      (fun q1 q2 q3 q4 => by
        exfalso
        (try simp only [e9, e46, e47, e48] at q1 q2 q3 q4)
        omega)
  · obtain ⟨hIY, e9, e46, e47, e48⟩ := fr M Scr.rf
    refine m_best hIY hIY.1 hrow hn hi
      (fun q1 => by
        exfalso
        (try simp only [e9, e46, e47, e48] at q1)
        omega)
      (fun q1 => ⟨rfl, hIY⟩)
      (fun q1 => by
        exfalso
        (try simp only [e9, e46, e47, e48] at q1)
        omega)
      (fun q1 q2 => by
        exfalso
        (try simp only [e9, e46, e47, e48] at q1 q2)
        omega)
      (fun q1 q2 q3 => by
        exfalso
        (try simp only [e9, e46, e47, e48] at q1 q2 q3)
        omega)
      (fun q1 q2 q3 q4 => by
        exfalso
        (try simp only [e9, e46, e47, e48] at q1 q2 q3 q4)
        omega)
      (fun q1 q2 q3 q4 => by
        exfalso
        (try simp only [e9, e46, e47, e48] at q1 q2 q3 q4)
        omega)
  · obtain ⟨hIY, e9, e46, e47, e48⟩ := fr Y hY
    refine m_best hIY hIY.1 hrow hn hi
      (fun q1 => by
        exfalso
        (try simp only [e9, e46, e47, e48] at q1)
        omega)
      (fun q1 => by
        exfalso
        (try simp only [e9, e46, e47, e48] at q1)
        omega)
      (fun q1 Z hZ => ⟨rfl, hIY.scr hZ⟩)
      (fun q1 q2 => by
        exfalso
        (try simp only [e9, e46, e47, e48] at q1 q2)
        omega)
      (fun q1 q2 q3 => by
        exfalso
        (try simp only [e9, e46, e47, e48] at q1 q2 q3)
        omega)
      (fun q1 q2 q3 q4 => by
        exfalso
        (try simp only [e9, e46, e47, e48] at q1 q2 q3 q4)
        omega)
      (fun q1 q2 q3 q4 => by
        exfalso
        (try simp only [e9, e46, e47, e48] at q1 q2 q3 q4)
        omega)
  · obtain ⟨hIY, e9, e46, e47, e48⟩ := fr Y hY
    refine m_best hIY hIY.1 hrow hn hi
      (fun q1 => by
        exfalso
        (try simp only [e9, e46, e47, e48] at q1)
        omega)
      (fun q1 => by
        exfalso
        (try simp only [e9, e46, e47, e48] at q1)
        omega)
      (fun q1 => by
        exfalso
        (try simp only [e9, e46, e47, e48] at q1)
        omega)
      (fun q1 q2 Z hZ => ⟨rfl, hIY.scr hZ⟩)
      (fun q1 q2 q3 => by
        exfalso
        (try simp only [e9, e46, e47, e48] at q1 q2 q3)
        omega)
      (fun q1 q2 q3 q4 => by
        exfalso
        (try simp only [e9, e46, e47, e48] at q1 q2 q3 q4)
        omega)
      (fun q1 q2 q3 q4 => by
        exfalso
        (try simp only [e9, e46, e47, e48] at q1 q2 q3 q4)
        omega)
  · obtain ⟨hIY, e9, e46, e47, e48⟩ := fr Y hY
    refine m_best hIY hIY.1 hrow hn hi
      (fun q1 => by
        exfalso
        (try simp only [e9, e46, e47, e48] at q1)
        omega)
      (fun q1 => by
        exfalso
        (try simp only [e9, e46, e47, e48] at q1)
        omega)
      (fun q1 => by
        exfalso
        (try simp only [e9, e46, e47, e48] at q1)
        omega)
      (fun q1 q2 => by
        exfalso
        (try simp only [e9, e46, e47, e48] at q1 q2)
        omega)
      (fun q1 q2 q3 Z hZ => ⟨rfl, hIY.scr hZ⟩)
      (fun q1 q2 q3 q4 => by
        exfalso
        (try simp only [e9, e46, e47, e48] at q1 q2 q3 q4)
        omega)
      (fun q1 q2 q3 q4 => by
        exfalso
        (try simp only [e9, e46, e47, e48] at q1 q2 q3 q4)
        omega)
  · obtain ⟨hIY, e9, e46, e47, e48⟩ := fr Y hY
    refine m_best hIY hIY.1 hrow hn hi
      (fun q1 => by
        exfalso
        (try simp only [e9, e46, e47, e48] at q1)
        omega)
      (fun q1 => by
        exfalso
        (try simp only [e9, e46, e47, e48] at q1)
        omega)
      (fun q1 => by
        exfalso
        (try simp only [e9, e46, e47, e48] at q1)
        omega)
      (fun q1 q2 => by
        exfalso
        (try simp only [e9, e46, e47, e48] at q1 q2)
        omega)
      (fun q1 q2 q3 => by
        exfalso
        (try simp only [e9, e46, e47, e48] at q1 q2 q3)
        omega)
      (fun q1 q2 q3 q4 Z hZ => ⟨rfl, hIY.scr hZ⟩)
      (fun q1 q2 q3 q4 => by
        exfalso
        (try simp only [e9, e46, e47, e48] at q1 q2 q3 q4)
        obtain ⟨j, ja, jb, jc⟩ := w4
        exact absurd (q4 j ja jb) jc)
  · obtain ⟨hIY, e9, e46, e47, e48⟩ := fr Y hY
    refine m_best hIY hIY.1 hrow hn hi
      (fun q1 => by
        exfalso
        (try simp only [e9, e46, e47, e48] at q1)
        omega)
      (fun q1 => by
        exfalso
        (try simp only [e9, e46, e47, e48] at q1)
        omega)
      (fun q1 => by
        exfalso
        (try simp only [e9, e46, e47, e48] at q1)
        omega)
      (fun q1 q2 => by
        exfalso
        (try simp only [e9, e46, e47, e48] at q1 q2)
        omega)
      (fun q1 q2 q3 => by
        exfalso
        (try simp only [e9, e46, e47, e48] at q1 q2 q3)
        omega)
      (fun q1 q2 q3 q4 => by
        exfalso
        (try simp only [e9, e46, e47, e48] at q1 q2 q3 q4)
        obtain ⟨j, ja, jb, jc⟩ := q4
        exact absurd (w4 j ja jb) jc)
      (fun q1 q2 q3 q4 Z u hZ hu => ?_)
    refine ⟨?_, hIY.scr hZ⟩
    have hu2 := bAns.fr hY hu
    rw [e9] at hu2
    have hBF := BF_of hC (row := row) (n := n) w.1.1 w.1.2 w.2 w4
    have en : ((n.toNat : Nat) : Int) = n := by omega
    have hg := hC.rng
    rcases hu2 with ⟨h1, h2⟩ | ⟨y, h1, h2⟩
    · have z := best_none (i := i) h2 hv
      rw [en] at z
      omega
    · have z := best_val (i := i) (by omega) (by omega) h1 (fun j a b => ⟨(w4 j a (by omega)).1, by
        have q := bF.rng hBF h1.1 a b
        exact (hC.rk q.1 q.2).2.2.1⟩) hv
      rw [en] at z
      rw [z, h2]

