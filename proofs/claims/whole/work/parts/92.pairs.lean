/-! BEST *** the reference: what is loose *** -/
def LooseU (M Y : jM) (L : List Int) : Prop := Scr M Y ∧ ∀ i : Nat, i < L.length → Y 933 i = L.getD i 0
theorem LooseU.add {M Y : jM} {L : List Int} (h : LooseU M Y L) {p k : Int} (hk : k = L.length) : LooseU M (jset Y 933 k p) (L ++ [p]) := by
  obtain ⟨h1, h3⟩ := h
  refine ⟨h1.set (by omega), fun i hi => ?_⟩
  rw [List.length_append] at hi
  change i < L.length + 1 at hi
  by_cases e : i = L.length
  · subst e
    rw [getD_app_len, hk, jset_same]
  · rw [getD_app (by omega), jset_j (by omega)]
    exact h3 i (by omega)
theorem lm_loose {X : jX} {M : jM} {Q : Int → jM → Prop} (hC : CR M) {n : Nat} {nn : Int} (hnn : nn = n) (hn8 : n ≤ 7) (h1 : (looseL (M 929) n (M 929 709).toNat).length = n → ∀ Y : jM, LooseU M Y (looseL (M 929) n (M 929 709).toNat) → Q 1 Y) (h0 : (looseL (M 929) n (M 929 709).toNat).length < n → ∀ Y : jM, Scr M Y → Q 0 Y) : ∀ k p : Nat, (p : Int) + k = M 929 709 → ∀ (Y : jM) (c pp : Int), pp = p → c = ((looseL (M 929) n p).length : Nat) → LooseU M Y (looseL (M 929) n p) → jE X yX12_findsLoose cX12_findsLoose 4 (some .boolean) 2 Q Y 4 [(0, jR 928), (1, jI nn), (2, jI c), (3, jI pp)] [] := by
  intro k
  induction k with
  | zero =>
    intro p hp Y c pp hpp hc hG
    have hCY := hG.1.cr hC
    have hn := hCY.cnt
    have hg := hCY.rng
    have e9 := hG.1.row
    have e72 : Y 929 709 = M 929 709 := by rw [e9]
    have hl0 := looseL_len (a := M 929) (n := n) p
    have e : (M 929 709).toNat = p := by omega
    have hfull : looseL (M 929) n (M 929 709).toNat = looseL (M 929) n p := by rw [e]
    refine e_iload_n (i := 3) 5 dX12_findsLoose_4 rfl rfl rfl ?_
    refine e_aload_n (i := 0) 6 dX12_findsLoose_5 rfl rfl rfl ?_
    refine e_getr (j := 1) 9 fl_12_13 dX12_findsLoose_6 at_928 rfl rfl tp_928_1 rfl ?_
    refine e_sipush 12 dX12_findsLoose_9 (by decide) rfl ?_
    refine e_iald 13 dX12_findsLoose_12 ar_929 (by decide) (by decide) rfl (fun r12 => ?_)
    refine e_icmp_ge 16 67 dX12_findsLoose_13 (by omega) (by omega) (by decide) rfl (fun b13 => ?_) (fun b13 => ?_)
    · skip
      refine e_iload_n (i := 2) 68 dX12_findsLoose_67 rfl rfl rfl ?_
      refine e_iload_n (i := 1) 69 dX12_findsLoose_68 rfl rfl rfl ?_
      refine e_icmp_ne 72 76 dX12_findsLoose_69 (by omega) (by omega) (by decide) rfl (fun b69 => ?_) (fun b69 => ?_)
      · skip
        refine e_iconst 77 dX12_findsLoose_76 rfl ?_
        refine e_zret dX12_findsLoose_77 (by decide) ?_
        first
          | (exfalso; omega)
          | (exact h1 (by rw [hfull]; omega) Y (by rw [hfull]; exact hG))
          | (exact h0 (by rw [hfull]; omega) Y hG.1)
      · skip
        refine e_iconst 73 dX12_findsLoose_72 rfl ?_
        refine e_goto 77 dX12_findsLoose_73 (by decide) ?_
        refine e_zret dX12_findsLoose_77 (by decide) ?_
        first
          | (exfalso; omega)
          | (exact h1 (by rw [hfull]; omega) Y (by rw [hfull]; exact hG))
          | (exact h0 (by rw [hfull]; omega) Y hG.1)
    · omega
  | succ k ih =>
    intro p hp Y c pp hpp hc hG
    have hCY := hG.1.cr hC
    have hn := hCY.cnt
    have hg := hCY.rng
    have e9 := hG.1.row
    have e72 : Y 929 709 = M 929 709 := by rw [e9]
    have hl0 := looseL_len (a := M 929) (n := n) p
    have hpr := hCY.plr (p := pp) (by omega) (by omega)
    have hstep : looseL (M 929) n (p + 1) = if (looseL (M 929) n p).length < n ∧ Y 929 (1010 + pp) = 0 ∧ Y 929 (950 + pp) = -1 then looseL (M 929) n p ++ [pp] else looseL (M 929) n p := by
      rw [looseL, hpp, e9]
    have hfull : n ≤ (looseL (M 929) n p).length → looseL (M 929) n (M 929 709).toNat = looseL (M 929) n p := fun hh => by
      have e : (M 929 709).toNat = p + (M 929 709 - p).toNat := by omega
      rw [e]
      exact looseL_full hh _
    refine e_iload_n (i := 3) 5 dX12_findsLoose_4 rfl rfl rfl ?_
    refine e_aload_n (i := 0) 6 dX12_findsLoose_5 rfl rfl rfl ?_
    refine e_getr (j := 1) 9 fl_12_13 dX12_findsLoose_6 at_928 rfl rfl tp_928_1 rfl ?_
    refine e_sipush 12 dX12_findsLoose_9 (by decide) rfl ?_
    refine e_iald 13 dX12_findsLoose_12 ar_929 (by decide) (by decide) rfl (fun r12 => ?_)
    refine e_icmp_ge 16 67 dX12_findsLoose_13 (by omega) (by omega) (by decide) rfl (fun b13 => ?_) (fun b13 => ?_)
    · omega
    · skip
      refine e_iload_n (i := 2) 17 dX12_findsLoose_16 rfl rfl rfl ?_
      refine e_iload_n (i := 1) 18 dX12_findsLoose_17 rfl rfl rfl ?_
      refine e_icmp_ge 21 67 dX12_findsLoose_18 (by omega) (by omega) (by decide) rfl (fun b18 => ?_) (fun b18 => ?_)
      · skip
        refine e_iload_n (i := 2) 68 dX12_findsLoose_67 rfl rfl rfl ?_
        refine e_iload_n (i := 1) 69 dX12_findsLoose_68 rfl rfl rfl ?_
        refine e_icmp_ne 72 76 dX12_findsLoose_69 (by omega) (by omega) (by decide) rfl (fun b69 => ?_) (fun b69 => ?_)
        · skip
          refine e_iconst 77 dX12_findsLoose_76 rfl ?_
          refine e_zret dX12_findsLoose_77 (by decide) ?_
          have hfull := hfull (by omega)
          first
            | (exfalso; omega)
            | (exact h1 (by rw [hfull]; omega) Y (by rw [hfull]; exact hG))
            | (exact h0 (by rw [hfull]; omega) Y hG.1)
        · skip
          refine e_iconst 73 dX12_findsLoose_72 rfl ?_
          refine e_goto 77 dX12_findsLoose_73 (by decide) ?_
          refine e_zret dX12_findsLoose_77 (by decide) ?_
          have hfull := hfull (by omega)
          first
            | (exfalso; omega)
            | (exact h1 (by rw [hfull]; omega) Y (by rw [hfull]; exact hG))
            | (exact h0 (by rw [hfull]; omega) Y hG.1)
      · skip
        refine e_aload_n (i := 0) 22 dX12_findsLoose_21 rfl rfl rfl ?_
        refine e_getr (j := 1) 25 fl_12_13 dX12_findsLoose_22 at_928 rfl rfl tp_928_1 rfl ?_
        refine e_sipush 28 dX12_findsLoose_25 (by decide) rfl ?_
        refine e_iload_n (i := 3) 29 dX12_findsLoose_28 rfl rfl rfl ?_
        refine e_iadd 30 dX12_findsLoose_29 rfl ?_
        refine e_iald 31 dX12_findsLoose_30 ar_929 (by omega) (by omega) rfl (fun r30 => ?_)
        refine e_if_ne 34 61 dX12_findsLoose_31 (by omega) (by decide) rfl (fun b31 => ?_) (fun b31 => ?_)
        · skip
          refine e_iinc (lsn := [(3, _), (0, _), (1, _), (2, _)]) 64 dX12_findsLoose_61 rfl (by decide) rfl rfl ?_
          refine e_goto 4 dX12_findsLoose_64 (by decide) ?_
          refine e_ls (ls2 := [(0, _), (1, _), (2, _), (3, _)]) rfl ?_
          refine ih (p + 1) (by omega) Y c _ (by omega) ?_ ?_
          · rw [hstep, if_neg (by omega)]
            exact hc
          · rw [hstep, if_neg (by omega)]
            exact hG
        · skip
          refine e_aload_n (i := 0) 35 dX12_findsLoose_34 rfl rfl rfl ?_
          refine e_getr (j := 1) 38 fl_12_13 dX12_findsLoose_35 at_928 rfl rfl tp_928_1 rfl ?_
          refine e_sipush 41 dX12_findsLoose_38 (by decide) rfl ?_
          refine e_iload_n (i := 3) 42 dX12_findsLoose_41 rfl rfl rfl ?_
          refine e_iadd 43 dX12_findsLoose_42 rfl ?_
          refine e_iald 44 dX12_findsLoose_43 ar_929 (by omega) (by omega) rfl (fun r43 => ?_)
          refine e_iconst 45 dX12_findsLoose_44 rfl ?_
          refine e_icmp_eq 48 51 dX12_findsLoose_45 (by omega) (by decide) (by decide) rfl (fun b45 => ?_) (fun b45 => ?_)
          · skip
            refine e_aload_n (i := 0) 52 dX12_findsLoose_51 rfl rfl rfl ?_
            refine e_getr (j := 18) 55 fl_12_30 dX12_findsLoose_52 at_928 rfl rfl tp_928_18 rfl ?_
            refine e_iload_n (i := 2) 56 dX12_findsLoose_55 rfl rfl rfl ?_
            refine e_iload_n (i := 3) 57 dX12_findsLoose_56 rfl rfl rfl ?_
            refine e_iast 58 dX12_findsLoose_57 ar_933 (by omega) (by omega) (by omega) rfl ?_
            refine e_iinc (lsn := [(2, _), (0, _), (1, _), (3, _)]) 61 dX12_findsLoose_58 rfl (by decide) rfl rfl ?_
            refine e_iinc (lsn := [(3, _), (2, _), (0, _), (1, _)]) 64 dX12_findsLoose_61 rfl (by decide) rfl rfl ?_
            refine e_goto 4 dX12_findsLoose_64 (by decide) ?_
            refine e_ls (ls2 := [(0, _), (1, _), (2, _), (3, _)]) rfl ?_
            refine ih (p + 1) (by omega) _ _ _ (by omega) ?_ ?_
            · rw [hstep, if_pos (by omega), List.length_append]
              show _ = ((_ + 1 : Nat) : Int)
              omega
            · rw [hstep, if_pos (by omega)]
              exact hG.add hc
          · skip
            refine e_goto 61 dX12_findsLoose_48 (by decide) ?_
            refine e_iinc (lsn := [(3, _), (0, _), (1, _), (2, _)]) 64 dX12_findsLoose_61 rfl (by decide) rfl rfl ?_
            refine e_goto 4 dX12_findsLoose_64 (by decide) ?_
            refine e_ls (ls2 := [(0, _), (1, _), (2, _), (3, _)]) rfl ?_
            refine ih (p + 1) (by omega) Y c _ (by omega) ?_ ?_
            · rw [hstep, if_neg (by omega)]
              exact hc
            · rw [hstep, if_neg (by omega)]
              exact hG

theorem m_loose {M : jM} {Q : Int → jM → Prop} (hC : CR M) {n : Nat} {nn : Int} (hnn : nn = n) (hn8 : n ≤ 7) (h1 : (looseL (M 929) n (M 929 709).toNat).length = n → ∀ Y : jM, LooseU M Y (looseL (M 929) n (M 929 709).toNat) → Q 1 Y) (h0 : (looseL (M 929) n (M 929 709).toNat).length < n → ∀ Y : jM, Scr M Y → Q 0 Y) : jCt yX12_findsLoose cX12_findsLoose 4 (some .boolean) 2 [jR 928, jI nn] M Q := by
  refine jCt_of mt_yX12_findsLoose (Nat.le_of_ble_eq_true rfl) (fun X => ?_)
  have hg := hC.rng
  refine e_iconst 1 dX12_findsLoose_0 rfl ?_
  refine e_istore_n (i := 2) (lsn := [(2, _), (0, _), (1, _)]) 2 dX12_findsLoose_1 rfl (by decide) rfl rfl ?_
  refine e_iconst 3 dX12_findsLoose_2 rfl ?_
  refine e_istore_n (i := 3) (lsn := [(3, _), (2, _), (0, _), (1, _)]) 4 dX12_findsLoose_3 rfl (by decide) rfl rfl ?_
  refine e_ls (ls2 := [(0, _), (1, _), (2, _), (3, _)]) rfl ?_
  exact lm_loose hC hnn hn8 h1 h0 (M 929 709).toNat 0 (by omega) _ _ _ rfl rfl ⟨Scr.rf, fun i hi => absurd hi (Nat.not_lt_zero i)⟩

