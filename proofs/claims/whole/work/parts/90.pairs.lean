/-! BEST *** the class: what is gathered, what it weighs *** -/
/-- the first n pledges on no rack, of those ahead of p -/
def looseL (a : Int → Int) (n : Nat) : Nat → List Int
  | 0 => []
  | p + 1 => if (looseL a n p).length < n ∧ a (1010 + p) = 0 ∧ a (950 + p) = -1 then looseL a n p ++ [(p : Int)] else looseL a n p
theorem looseL_full {a : Int → Int} {n p : Nat} (h : n ≤ (looseL a n p).length) : ∀ k : Nat, looseL a n (p + k) = looseL a n p
  | 0 => rfl
  | k + 1 => by
    have ih := looseL_full h k
    rw [show p + (k + 1) = p + k + 1 by omega, looseL, ih, if_neg (by omega)]
theorem looseL_len {a : Int → Int} {n : Nat} : ∀ p : Nat, (looseL a n p).length ≤ n
  | 0 => Nat.zero_le n
  | p + 1 => by
    have ih := looseL_len (a := a) (n := n) p
    rw [looseL]
    split
    · rw [List.length_append]
      show _ + 1 ≤ n
      omega
    · exact ih
theorem looseL_mem {a : Int → Int} {n : Nat} : ∀ (p : Nat) (x : Int), x ∈ looseL a n p → 0 ≤ x ∧ x < p
  | 0, x, h => absurd h List.not_mem_nil
  | p + 1, x, h => by
    rw [looseL] at h
    split at h
    · rcases List.mem_append.mp h with q | q
      · have := looseL_mem p x q
        omega
      · rw [List.mem_singleton.mp q]
        omega
    · have := looseL_mem p x h
      omega
def GathU (M Y : jM) (L : List Int) : Prop := Scr M Y ∧ Y 903 0 = L.length ∧ ∀ i : Nat, i < L.length → Y 904 i = sizeOfP (M 929) (L.getD i 0)
theorem GathU.add {M Y : jM} {L : List Int} (h : GathU M Y L) {p s v : Int} (hs : s = sizeOfP (M 929) p) : GathU M (jset (jset (jset Y 904 (Y 903 0) s) 905 (Y 903 0) v) 903 0 (Y 903 0 + 1)) (L ++ [p]) := by
  obtain ⟨h1, h2, h3⟩ := h
  refine ⟨((h1.set (by omega)).set (by omega)).set (by omega), ?_, fun i hi => ?_⟩
  · rw [jset_same, h2, List.length_append]
    show _ = ((L.length + 1 : Nat) : Int)
    omega
  · rw [List.length_append] at hi
    change i < L.length + 1 at hi
    by_cases e : i = L.length
    · subst e
      rw [getD_app_len, h2]
      simp (disch := omega) only [jset_k, jset_j, jset_same]
      exact hs
    · rw [getD_app (by omega)]
      simp (disch := omega) only [jset_k, jset_j, jset_same]
      exact h3 i (by omega)
theorem l_unr {X : jX} {M : jM} {Q : Int → jM → Prop} (hC : CR M) {n : Nat} {nn : Int} (hnn : nn = n) (hn8 : n ≤ 8) (h : ∀ Y : jM, GathU M Y (looseL (M 929) n (M 929 709).toNat) → Q ((looseL (M 929) n (M 929 709).toNat).length : Nat) Y) : ∀ k p : Nat, (p : Int) + k = M 929 709 → ∀ (Y : jM) (pp : Int), pp = p → GathU M Y (looseL (M 929) n p) → jE X yX4_gatherUnracked cX4_gatherUnracked 5 (some .int) 2 Q Y 7 [(0, jR 903), (1, jR 1), (2, jI nn), (3, jI pp)] [] := by
  intro k
  induction k with
  | zero =>
    intro p hp Y pp hpp hG
    have hCY := hG.1.cr hC
    have hn := hCY.cnt
    have hg := hCY.rng
    have e9 := hG.1.row
    have e72 : Y 929 709 = M 929 709 := by rw [e9]
    have hl0 := looseL_len (a := M 929) (n := n) p
    have hG2 := hG.2.1
    have e : (M 929 709).toNat = p := by omega
    have h := h
    rw [e] at h
    have h := h Y hG
    rw [← hG2] at h
    refine e_iload_n (i := 3) 8 dX4_gatherUnracked_7 rfl rfl rfl ?_
    refine e_aload_n (i := 1) 9 dX4_gatherUnracked_8 rfl rfl rfl ?_
    refine e_geti (j := 10) 12 fl_4_96 dX4_gatherUnracked_9 at_1 (by decide) rfl rfl (fun r9 => ?_)
    refine e_icmp_ge 15 72 dX4_gatherUnracked_12 (by omega) (by omega) (by decide) rfl (fun b12 => ?_) (fun b12 => ?_)
    · skip
      refine e_aload_n (i := 0) 73 dX4_gatherUnracked_72 rfl rfl rfl ?_
      refine e_geti (j := 0) 76 fl_4_55 dX4_gatherUnracked_73 at_903 (by decide) rfl rfl (fun r73 => ?_)
      refine e_iret dX4_gatherUnracked_76 ?_
      exact h
    · omega
  | succ k ih =>
    intro p hp Y pp hpp hG
    have hCY := hG.1.cr hC
    have hn := hCY.cnt
    have hg := hCY.rng
    have e9 := hG.1.row
    have e72 : Y 929 709 = M 929 709 := by rw [e9]
    have hl0 := looseL_len (a := M 929) (n := n) p
    have hG2 := hG.2.1
    have hp0 := hCY.pl (p := pp) (by omega) (by omega)
    have hpr := hCY.plr (p := pp) (by omega) (by omega)
    have hk := hCY.kind hpr.1.1 hpr.1.2
    have hp5 := hp0.1.2.2.2.2.2.1
    have hp6 := hp0.1.2.2.2.2.2.2.1
    have e0 : Y (56 + Y (84 + pp) 0) 0 = Y 929 (583 + Y 929 (710 + pp)) := by rw [hp0.1.1]; exact hk.1.1
    have hk0 := hk.2.1
    have hi0 : Y (84 + pp) 0 = Y 929 (710 + pp) := hp0.1.1
    have hstep : looseL (M 929) n (p + 1) = if (looseL (M 929) n p).length < n ∧ Y 929 (1010 + pp) = 0 ∧ Y 929 (950 + pp) = -1 then looseL (M 929) n p ++ [pp] else looseL (M 929) n p := by
      rw [looseL, hpp, e9]
    refine e_iload_n (i := 3) 8 dX4_gatherUnracked_7 rfl rfl rfl ?_
    refine e_aload_n (i := 1) 9 dX4_gatherUnracked_8 rfl rfl rfl ?_
    refine e_geti (j := 10) 12 fl_4_96 dX4_gatherUnracked_9 at_1 (by decide) rfl rfl (fun r9 => ?_)
    refine e_icmp_ge 15 72 dX4_gatherUnracked_12 (by omega) (by omega) (by decide) rfl (fun b12 => ?_) (fun b12 => ?_)
    · omega
    · skip
      refine e_aload_n (i := 0) 16 dX4_gatherUnracked_15 rfl rfl rfl ?_
      refine e_geti (j := 0) 19 fl_4_55 dX4_gatherUnracked_16 at_903 (by decide) rfl rfl (fun r16 => ?_)
      refine e_iload_n (i := 2) 20 dX4_gatherUnracked_19 rfl rfl rfl ?_
      refine e_icmp_ge 23 72 dX4_gatherUnracked_20 (by omega) (by omega) (by decide) rfl (fun b20 => ?_) (fun b20 => ?_)
      · skip
        refine e_aload_n (i := 0) 73 dX4_gatherUnracked_72 rfl rfl rfl ?_
        refine e_geti (j := 0) 76 fl_4_55 dX4_gatherUnracked_73 at_903 (by decide) rfl rfl (fun r73 => ?_)
        refine e_iret dX4_gatherUnracked_76 ?_
        first
          | (exfalso; omega)
          | (have e : (M 929 709).toNat = p + (M 929 709 - p).toNat := by omega
             have hfull := looseL_full (a := M 929) (n := n) (p := p) (by omega) (M 929 709 - p).toNat
             rw [← e] at hfull
             have h := h
             rw [hfull] at h
             have h := h Y hG
             rw [← hG2] at h
             exact h)
      · skip
        refine e_aload_n (i := 1) 24 dX4_gatherUnracked_23 rfl rfl rfl ?_
        refine e_getr (j := 9) 27 fl_4_65 dX4_gatherUnracked_24 at_1 rfl rfl tp_1_9 rfl ?_
        refine e_iload_n (i := 3) 28 dX4_gatherUnracked_27 rfl rfl rfl ?_
        refine e_aald 29 dX4_gatherUnracked_28 ar_18 (by decide) (by omega) (by omega) (tp_pledge (by omega) (by omega)) rfl ?_
        refine e_astore (lsn := [(4, _), (0, _), (1, _), (2, _), (3, _)]) 31 dX4_gatherUnracked_29 (by decide) rfl rfl ?_
        refine e_aload 33 dX4_gatherUnracked_31 rfl rfl ?_
        refine e_geti (j := 6) 36 fl_4_99 dX4_gatherUnracked_33 (at_pledge (by omega) (by omega)) (by decide) rfl rfl (fun r33 => ?_)
        refine e_if_ne 39 66 dX4_gatherUnracked_36 (by omega) (by decide) rfl (fun b36 => ?_) (fun b36 => ?_)
        · skip
          refine e_iinc (lsn := [(3, _), (4, _), (0, _), (1, _), (2, _)]) 69 dX4_gatherUnracked_66 rfl (by decide) rfl rfl ?_
          refine e_goto 7 dX4_gatherUnracked_69 (by decide) ?_
          refine e_ls (ls2 := [(0, _), (1, _), (2, _), (3, _)]) rfl ?_
          first
            | (exfalso; omega)
            | (refine ih (p + 1) (by omega) _ _ (by omega) ?_
               rw [hstep, if_neg (by omega)]
               exact hG)
        · skip
          refine e_aload 41 dX4_gatherUnracked_39 rfl rfl ?_
          refine e_geti (j := 5) 44 fl_4_69 dX4_gatherUnracked_41 (at_pledge (by omega) (by omega)) (by decide) rfl rfl (fun r41 => ?_)
          refine e_iconst 45 dX4_gatherUnracked_44 rfl ?_
          refine e_icmp_ne 48 66 dX4_gatherUnracked_45 (by omega) (by decide) (by decide) rfl (fun b45 => ?_) (fun b45 => ?_)
          · skip
            refine e_iinc (lsn := [(3, _), (4, _), (0, _), (1, _), (2, _)]) 69 dX4_gatherUnracked_66 rfl (by decide) rfl rfl ?_
            refine e_goto 7 dX4_gatherUnracked_69 (by decide) ?_
            refine e_ls (ls2 := [(0, _), (1, _), (2, _), (3, _)]) rfl ?_
            first
              | (exfalso; omega)
              | (refine ih (p + 1) (by omega) _ _ (by omega) ?_
                 rw [hstep, if_neg (by omega)]
                 exact hG)
          · skip
            refine e_aload_n (i := 0) 49 dX4_gatherUnracked_48 rfl rfl rfl ?_
            refine e_aload_n (i := 1) 50 dX4_gatherUnracked_49 rfl rfl rfl ?_
            refine e_getr (j := 5) 53 fl_4_77 dX4_gatherUnracked_50 at_1 rfl rfl tp_1_5 rfl ?_
            refine e_aload 55 dX4_gatherUnracked_53 rfl rfl ?_
            refine e_geti (j := 0) 58 fl_4_81 dX4_gatherUnracked_55 (at_pledge (by omega) (by omega)) (by decide) rfl rfl (fun r55 => ?_)
            refine e_aald 59 dX4_gatherUnracked_58 ar_16 (by decide) (by omega) (by omega) (tp_kind (by omega) (by omega)) rfl ?_
            refine e_geti (j := 0) 62 fl_4_84 dX4_gatherUnracked_59 (at_kind (by omega) (by omega)) (by decide) rfl rfl (fun r59 => ?_)
            refine e_iconst 63 dX4_gatherUnracked_62 rfl ?_
            refine e_callV 66 mt_yX4_add mv_yX4_add wd_964 (by decide) dX4_gatherUnracked_63 at_903 jc_4 rfl rfl rfl (Nat.le_of_ble_eq_true rfl) (jroom (by decide)) rfl (c_add (by omega) (by omega) (by omega) ?_)
            dsimp only [jpush]
            refine e_iinc (lsn := [(3, _), (4, _), (0, _), (1, _), (2, _)]) 69 dX4_gatherUnracked_66 rfl (by decide) rfl rfl ?_
            refine e_goto 7 dX4_gatherUnracked_69 (by decide) ?_
            refine e_ls (ls2 := [(0, _), (1, _), (2, _), (3, _)]) rfl ?_
            refine ih (p + 1) (by omega) _ _ (by omega) ?_
            rw [hstep, if_pos (by omega)]
            refine hG.add ?_
            rw [e0, e9]
            rfl

theorem c_unracked {M : jM} {Q : Int → jM → Prop} (hC : CR M) {n : Nat} {nn : Int} (hnn : nn = n) (hn8 : n ≤ 8) (h : ∀ Y : jM, GathU M Y (looseL (M 929) n (M 929 709).toNat) → Q ((looseL (M 929) n (M 929 709).toNat).length : Nat) Y) : jCt yX4_gatherUnracked cX4_gatherUnracked 5 (some .int) 2 [jR 903, jR 1, jI nn] M Q := by
  refine jCt_of mt_yX4_gatherUnracked (Nat.le_of_ble_eq_true rfl) (fun X => ?_)
  have hg := hC.rng
  refine e_aload_n (i := 0) 1 dX4_gatherUnracked_0 rfl rfl rfl ?_
  refine e_iconst 2 dX4_gatherUnracked_1 rfl ?_
  refine e_puti (j := 0) 5 fl_4_55 dX4_gatherUnracked_2 at_903 rfl rfl rfl (by decide) rfl ?_
  refine e_iconst 6 dX4_gatherUnracked_5 rfl ?_
  refine e_istore_n (i := 3) (lsn := [(3, _), (0, _), (1, _), (2, _)]) 7 dX4_gatherUnracked_6 rfl (by decide) rfl rfl ?_
  refine e_ls (ls2 := [(0, _), (1, _), (2, _), (3, _)]) rfl ?_
  exact l_unr hC hnn hn8 h (M 929 709).toNat 0 (by omega) _ _ rfl ⟨Scr.rf.set (by omega), jset_same, fun i hi => absurd hi (Nat.not_lt_zero i)⟩

theorem l_weigh {X : jX} {Y : jM} {Q : Int → jM → Prop} {r nn : Int} {n : Nat} (hnn : nn = n) (hn8 : n ≤ 8) (hr : 0 ≤ r ∧ r < 4) (h0 : ∀ Z : jM, Oth1 905 Y Z → (∃ j : Int, 0 ≤ j ∧ j < n ∧ ¬ (0 ≤ Y (896 + 2 * r) j ∧ Y (896 + 2 * r) j ≤ 99)) → Q 0 Z) (h1 : ∀ Z : jM, Oth1 905 Y Z → (∀ j : Int, 0 ≤ j → j < n → (0 ≤ Y (896 + 2 * r) j ∧ Y (896 + 2 * r) j ≤ 99) ∧ Z 905 j = Y (896 + 2 * r) j) → Q 1 Z) : ∀ (k : Nat) (jj : Int), 0 ≤ jj → jj + k = nn → ∀ Z : jM, Oth1 905 Y Z → (∀ j : Int, 0 ≤ j → j < jj → (0 ≤ Y (896 + 2 * r) j ∧ Y (896 + 2 * r) j ≤ 99) ∧ Z 905 j = Y (896 + 2 * r) j) → jE X yX4_weigh cX4_weigh 4 (some .boolean) 2 Q Z 2 [(0, jR 903), (1, jR (895 + 2 * r)), (2, jI nn), (3, jI jj)] [] := by
  intro k
  induction k with
  | zero =>
    intro jj a0 hj Z hO hZ
    have e : jj = n := by omega
    rw [e] at hZ
    have h1 := h1 Z hO hZ
    refine e_iload_n (i := 3) 3 dX4_weigh_2 rfl rfl rfl ?_
    refine e_iload_n (i := 2) 4 dX4_weigh_3 rfl rfl rfl ?_
    refine e_icmp_ge 7 47 dX4_weigh_4 (by omega) (by omega) (by decide) rfl (fun b4 => ?_) (fun b4 => ?_)
    · skip
      refine e_iconst 48 dX4_weigh_47 rfl ?_
      refine e_zret dX4_weigh_48 (by decide) ?_
      exact h1
    · omega
  | succ k ih =>
    intro jj a0 hj Z hO hZ
    have eZ : Z (896 + 2 * r) jj = Y (896 + 2 * r) jj := by rw [hO _ (by omega)]
    have hsm : (0 ≤ Y (896 + 2 * r) jj ∧ Y (896 + 2 * r) jj ≤ 999 ∧ smallV (Y (896 + 2 * r) jj) = Y (896 + 2 * r) jj) ∨ (¬ (0 ≤ Y (896 + 2 * r) jj ∧ Y (896 + 2 * r) jj ≤ 999) ∧ smallV (Y (896 + 2 * r) jj) = -1) := by
      by_cases e : 0 ≤ Y (896 + 2 * r) jj ∧ Y (896 + 2 * r) jj ≤ 999
      · exact Or.inl ⟨e.1, e.2, if_pos e⟩
      · exact Or.inr ⟨e, if_neg e⟩
    refine e_iload_n (i := 3) 3 dX4_weigh_2 rfl rfl rfl ?_
    refine e_iload_n (i := 2) 4 dX4_weigh_3 rfl rfl rfl ?_
    refine e_icmp_ge 7 47 dX4_weigh_4 (by omega) (by omega) (by decide) rfl (fun b4 => ?_) (fun b4 => ?_)
    · omega
    · skip
      refine e_aload_n (i := 0) 8 dX4_weigh_7 rfl rfl rfl ?_
      refine e_getr (j := 2) 11 fl_4_15 dX4_weigh_8 at_903 rfl rfl tp_903_2 rfl ?_
      refine e_iload_n (i := 3) 12 dX4_weigh_11 rfl rfl rfl ?_
      refine e_aload_n (i := 1) 13 dX4_weigh_12 rfl rfl rfl ?_
      refine e_iload_n (i := 3) 14 dX4_weigh_13 rfl rfl rfl ?_
      refine e_callV 17 mt_yX7_small mv_yX7_small wd_984 (by decide) dX4_weigh_14 (at_row (by omega) (by omega)) jc_7 rfl rfl rfl (Nat.le_of_ble_eq_true rfl) (jroom (by decide)) rfl (c_small (by omega) (by omega) ?_)
      dsimp only [jpush]
      rw [eZ]
      refine e_iast 18 dX4_weigh_17 ar_905 (by omega) (by omega) (by omega) rfl ?_
      refine e_aload_n (i := 0) 19 dX4_weigh_18 rfl rfl rfl ?_
      refine e_getr (j := 2) 22 fl_4_15 dX4_weigh_19 at_903 rfl rfl tp_903_2 rfl ?_
      refine e_iload_n (i := 3) 23 dX4_weigh_22 rfl rfl rfl ?_
      refine e_iald 24 dX4_weigh_23 ar_905 (by omega) (by omega) rfl (fun r23 => ?_)
      simp (disch := omega) only [jset_k, jset_j, jset_same, true_and, and_true] at r23 ⊢
      refine e_iconst 25 dX4_weigh_24 rfl ?_
      refine e_icmp_eq 28 39 dX4_weigh_25 (by omega) (by decide) (by decide) rfl (fun b25 => ?_) (fun b25 => ?_)
      · skip
        refine e_iconst 40 dX4_weigh_39 rfl ?_
        refine e_zret dX4_weigh_40 (by decide) ?_
        first
          | (exfalso; omega)
          | (exact h0 _ hO.set ⟨jj, a0, by omega, by omega⟩)
      · skip
        refine e_aload_n (i := 0) 29 dX4_weigh_28 rfl rfl rfl ?_
        refine e_getr (j := 2) 32 fl_4_15 dX4_weigh_29 at_903 rfl rfl tp_903_2 rfl ?_
        refine e_iload_n (i := 3) 33 dX4_weigh_32 rfl rfl rfl ?_
        refine e_iald 34 dX4_weigh_33 ar_905 (by omega) (by omega) rfl (fun r33 => ?_)
        simp (disch := omega) only [jset_k, jset_j, jset_same, true_and, and_true] at r33 ⊢
        refine e_bipush 36 dX4_weigh_34 (by decide) rfl ?_
        refine e_icmp_le 39 41 dX4_weigh_36 (by omega) (by decide) (by decide) rfl (fun b36 => ?_) (fun b36 => ?_)
        · skip
          refine e_iinc (lsn := [(3, _), (0, _), (1, _), (2, _)]) 44 dX4_weigh_41 rfl (by decide) rfl rfl ?_
          refine e_goto 2 dX4_weigh_44 (by decide) ?_
          refine e_ls (ls2 := [(0, _), (1, _), (2, _), (3, _)]) rfl ?_
          first
            | (exfalso; omega)
            | (refine ih (jj + 1) (by omega) (by omega) _ hO.set (fun j a b => ?_)
               by_cases e : j = jj
               · rw [e, jset_same]
                 exact ⟨by omega, by omega⟩
               · rw [jset_j e]
                 exact hZ j a (by omega))
        · skip
          refine e_iconst 40 dX4_weigh_39 rfl ?_
          refine e_zret dX4_weigh_40 (by decide) ?_
          first
            | (exfalso; omega)
            | (exact h0 _ hO.set ⟨jj, a0, by omega, by omega⟩)

theorem c_weigh {Y : jM} {Q : Int → jM → Prop} {r nn : Int} {n : Nat} (hnn : nn = n) (hn8 : n ≤ 8) (hr : 0 ≤ r ∧ r < 4) (h0 : ∀ Z : jM, Oth1 905 Y Z → (∃ j : Int, 0 ≤ j ∧ j < n ∧ ¬ (0 ≤ Y (896 + 2 * r) j ∧ Y (896 + 2 * r) j ≤ 99)) → Q 0 Z) (h1 : ∀ Z : jM, Oth1 905 Y Z → (∀ j : Int, 0 ≤ j → j < n → (0 ≤ Y (896 + 2 * r) j ∧ Y (896 + 2 * r) j ≤ 99) ∧ Z 905 j = Y (896 + 2 * r) j) → Q 1 Z) : jCt yX4_weigh cX4_weigh 4 (some .boolean) 2 [jR 903, jR (895 + 2 * r), jI nn] Y Q := by
  refine jCt_of mt_yX4_weigh (Nat.le_of_ble_eq_true rfl) (fun X => ?_)
  refine e_iconst 1 dX4_weigh_0 rfl ?_
  refine e_istore_n (i := 3) (lsn := [(3, _), (0, _), (1, _), (2, _)]) 2 dX4_weigh_1 rfl (by decide) rfl rfl ?_
  refine e_ls (ls2 := [(0, _), (1, _), (2, _), (3, _)]) rfl ?_
  exact l_weigh hnn hn8 hr h0 h1 n 0 (by omega) (by omega) Y (fun _ _ => rfl) (fun j a b => by omega)

