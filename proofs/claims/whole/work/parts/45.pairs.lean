/-! ROWS -/
def cZero (M : jM) (r n : Int) : jM := fun k j => if k = 896 + 2 * r ∧ 0 ≤ j ∧ j < n then 0 else M k j
def rZero (M : jM) (r n : Int) : jM := fun k j => if k = 948 ∧ 40 * r ≤ j ∧ j < 40 * r + n then 0 else M k j
theorem cZero_0 {M : jM} {r : Int} : cZero M r 0 = M := by
  funext k j
  exact if_neg (by omega)
theorem rZero_0 {M : jM} {r : Int} : rZero M r 0 = M := by
  funext k j
  exact if_neg (by omega)
theorem cZero_s {M : jM} {r n : Int} (h : 0 ≤ n) : jset (cZero M r n) (896 + 2 * r) n 0 = cZero M r (n + 1) := by
  funext k j
  unfold jset cZero
  by_cases e : k = 896 + 2 * r ∧ j = n
  · rw [if_pos e, if_pos (by omega)]
  · rw [if_neg e]
    by_cases e2 : k = 896 + 2 * r ∧ 0 ≤ j ∧ j < n
    · rw [if_pos e2, if_pos (by omega)]
    · rw [if_neg e2, if_neg (by omega)]
theorem rZero_s {M : jM} {r n : Int} (h : 0 ≤ n) : jset (rZero M r n) 948 (40 * r + n) 0 = rZero M r (n + 1) := by
  funext k j
  unfold jset rZero
  by_cases e : k = 948 ∧ j = 40 * r + n
  · rw [if_pos e, if_pos (by omega)]
  · rw [if_neg e]
    by_cases e2 : k = 948 ∧ 40 * r ≤ j ∧ j < 40 * r + n
    · rw [if_pos e2, if_pos (by omega)]
    · rw [if_neg e2, if_neg (by omega)]
theorem cZero_o {M : jM} {r n k j : Int} (h : k ≠ 896 + 2 * r) : cZero M r n k j = M k j := if_neg (fun e => h e.1)
theorem rZero_o {M : jM} {r n k j : Int} (h : k ≠ 948) : rZero M r n k j = M k j := if_neg (fun e => h e.1)
theorem cZero_in {M : jM} {r n i : Int} (h0 : 0 ≤ i) (h1 : i < n) : cZero M r n (896 + 2 * r) i = 0 := if_pos ⟨rfl, h0, h1⟩
theorem rZero_in {M : jM} {r n i : Int} (h0 : 0 ≤ i) (h1 : i < n) : rZero M r n 948 (40 * r + i) = 0 := if_pos ⟨rfl, by omega, by omega⟩
theorem rZero_j {M : jM} {r n k j : Int} (h : j < 40 * r ∨ 40 * r + n ≤ j) : rZero M r n k j = M k j := if_neg (by omega)
/-- only the rows have changed -/
theorem Inv.rows {M M2 : jM} (h : Inv M) (o : ∀ k j, k < 895 ∨ 903 ≤ k → k ≠ 946 → k ≠ 947 → k ≠ 948 → M2 k j = M k j) (hr : IRows M2) : Inv M2 := by
  obtain ⟨h1, h2, h3, h4, h5, -, h7⟩ := h
  have e9 : M2 929 = M 929 := funext fun j => o 929 j (by omega) (by omega) (by omega) (by omega)
  refine ⟨by rw [o _ _ (by omega) (by omega) (by omega) (by omega)]; exact h1, by rw [e9]; exact h2, ?_, ?_, ?_, hr, ?_⟩
  · rw [e9]
    exact h3.fr h2 (fun k j u v => o (1 + k) j (by omega) (by omega) (by omega) (by omega)) (fun i _ _ => rfl)
  · unfold ITape at h4 ⊢
    simp only [o 883 _ (by omega) (by omega) (by omega) (by omega), o 928 _ (by omega) (by omega) (by omega) (by omega), o 931 _ (by omega) (by omega) (by omega) (by omega), o 884 _ (by omega) (by omega) (by omega) (by omega)]
    exact h4
  · unfold IFault at h5 ⊢
    simp only [o 882 _ (by omega) (by omega) (by omega) (by omega), o 928 _ (by omega) (by omega) (by omega) (by omega), o 891 _ (by omega) (by omega) (by omega) (by omega)]
    exact h5
  · intro q q0 q1
    have h8 := h7 q q0 q1
    rw [o 881 q (by omega) (by omega) (by omega) (by omega), o 930 q (by omega) (by omega) (by omega) (by omega)]
    refine ⟨h8.1, h8.2.1, fun h9 => ?_⟩
    have h10 := h8.2.2 h9
    have ea : av M2 (3920 * (q + 1)) = av M (3920 * (q + 1)) := by
      unfold av
      rw [e9]
    rw [ea]
    exact ⟨h10.1, h10.2.fr h10.1 (fun k j u v => o _ j (by omega) (by omega) (by omega) (by omega)) (fun i _ _ => rfl)⟩
theorem l_rowbegin {X : jX} {r s w : Int} {M : jM} {Q : Int → jM → Prop} (hr : 0 ≤ r ∧ r < 4) (h : Q 0 (cZero M r 40)) : ∀ (n : Nat) (ii : Int), 0 ≤ ii → ii + n = 40 → jE X yX7_begin cX7_begin 4 none 1 Q (cZero M r ii) 12 [(0, jR (895 + 2 * r)), (1, jI s), (2, jI w), (3, jI ii)] [] := by
  intro n
  induction n with
  | zero =>
    intro ii h0 hi
    have e : ii = 40 := by omega
    subst e
    refine e_iload_n (i := 3) 13 dX7_begin_12 rfl rfl rfl ?_
    refine e_bipush 15 dX7_begin_13 (by decide) rfl ?_
    refine e_icmp_ge 18 31 dX7_begin_15 (by decide) (by decide) (by decide) rfl (fun _ => ?_) (fun h => absurd h (by decide))
    refine e_vret dX7_begin_31 ?_
    exact h
  | succ n ih =>
    intro ii h0 hi
    refine e_iload_n (i := 3) 13 dX7_begin_12 rfl rfl rfl ?_
    refine e_bipush 15 dX7_begin_13 (by decide) rfl ?_
    refine e_icmp_ge 18 31 dX7_begin_15 (by omega) (by decide) (by decide) rfl (fun b15 => ?_) (fun b15 => ?_)
    · omega
    · skip
      refine e_aload_n (i := 0) 19 dX7_begin_18 rfl rfl rfl ?_
      refine e_getr (j := 2) 22 fl_7_15 dX7_begin_19 (at_row (by omega) (by omega)) rfl rfl (tp_rownum (by omega) (by omega)) rfl ?_
      refine e_iload_n (i := 3) 23 dX7_begin_22 rfl rfl rfl ?_
      refine e_lconst0 24 dX7_begin_23 rfl ?_
      refine e_last 25 dX7_begin_24 (ar_rownum (by omega) (by omega)) (by omega) (by omega) (by decide) rfl ?_
      refine e_iinc (lsn := [(3, _), (0, _), (1, _), (2, _)]) 28 dX7_begin_25 rfl (by decide) rfl rfl ?_
      refine e_goto 12 dX7_begin_28 (by decide) ?_
      refine e_ls (ls2 := [(0, _), (1, _), (2, _), (3, _)]) rfl ?_
      rw [cZero_s h0]
      exact ih _ (by omega) (by omega)

theorem c_rowbegin {r s w : Int} {M : jM} {Q : Int → jM → Prop} (hr : 0 ≤ r ∧ r < 4) (hs : -2147483648 ≤ s ∧ s ≤ 2147483647) (hw : -2147483648 ≤ w ∧ w ≤ 2147483647) (h : Q 0 (cZero (jset (jset M (895 + 2 * r) 1 s) (895 + 2 * r) 0 w) r 40)) : jCt yX7_begin cX7_begin 4 none 1 [jR (895 + 2 * r), jI s, jI w] M Q := by
  refine jCt_of mt_yX7_begin (Nat.le_of_ble_eq_true rfl) (fun X => ?_)
  refine e_aload_n (i := 0) 1 dX7_begin_0 rfl rfl rfl ?_
  refine e_iload_n (i := 1) 2 dX7_begin_1 rfl rfl rfl ?_
  refine e_puti (j := 1) 5 fl_7_19 dX7_begin_2 (at_row (by omega) (by omega)) rfl rfl rfl (by omega) rfl ?_
  refine e_aload_n (i := 0) 6 dX7_begin_5 rfl rfl rfl ?_
  refine e_iload_n (i := 2) 7 dX7_begin_6 rfl rfl rfl ?_
  refine e_puti (j := 0) 10 fl_7_9 dX7_begin_7 (at_row (by omega) (by omega)) rfl rfl rfl (by omega) rfl ?_
  refine e_iconst 11 dX7_begin_10 rfl ?_
  refine e_istore_n (i := 3) (lsn := [(3, _), (0, _), (1, _), (2, _)]) 12 dX7_begin_11 rfl (by decide) rfl rfl ?_
  refine e_ls (ls2 := [(0, _), (1, _), (2, _), (3, _)]) rfl ?_
  have e := l_rowbegin (X := X) (s := s) (w := w) hr h 40 0 (by omega) (by omega)
  rw [cZero_0] at e
  exact e

theorem l_row {X : jX} {r s w : Int} {M : jM} {Q : Int → jM → Prop} (hr : 0 ≤ r ∧ r < 4) (hw : 0 ≤ w ∧ w ≤ 40) (h : Q 0 (rZero M r w)) : ∀ (n : Nat) (ii : Int), 0 ≤ ii → ii + n = w → jE X yX12_row cX12_row 5 (some .int) 2 Q (rZero M r ii) 64 [(4, jI ii), (0, jR 928), (1, jI r), (2, jI s), (3, jI w)] [] := by
  intro n
  induction n with
  | zero =>
    intro ii h0 hi
    have e : ii = w := by omega
    subst e
    refine e_iload 66 dX12_row_64 rfl rfl ?_
    refine e_iload_n (i := 3) 67 dX12_row_66 rfl rfl rfl ?_
    refine e_icmp_ge 70 89 dX12_row_67 (by omega) (by omega) (by decide) rfl (fun b67 => ?_) (fun b67 => ?_)
    · skip
      refine e_iconst 90 dX12_row_89 rfl ?_
      refine e_iret dX12_row_90 ?_
      exact h
    · omega
  | succ n ih =>
    intro ii h0 hi
    refine e_iload 66 dX12_row_64 rfl rfl ?_
    refine e_iload_n (i := 3) 67 dX12_row_66 rfl rfl rfl ?_
    refine e_icmp_ge 70 89 dX12_row_67 (by omega) (by omega) (by decide) rfl (fun b67 => ?_) (fun b67 => ?_)
    · omega
    · skip
      refine e_aload_n (i := 0) 71 dX12_row_70 rfl rfl rfl ?_
      refine e_getr (j := 33) 74 fl_12_75 dX12_row_71 at_928 rfl rfl tp_928_33 rfl ?_
      refine e_bipush 76 dX12_row_74 (by decide) rfl ?_
      refine e_iload_n (i := 1) 77 dX12_row_76 rfl rfl rfl ?_
      refine e_imul 78 dX12_row_77 rfl ?_
      refine e_iload 80 dX12_row_78 rfl rfl ?_
      refine e_iadd 81 dX12_row_80 rfl ?_
      refine e_lconst0 82 dX12_row_81 rfl ?_
      refine e_last 83 dX12_row_82 ar_948 (by omega) (by omega) (by decide) rfl ?_
      refine e_iinc (lsn := [(4, _), (0, _), (1, _), (2, _), (3, _)]) 86 dX12_row_83 rfl (by decide) rfl rfl ?_
      refine e_goto 64 dX12_row_86 (by decide) ?_
      rw [rZero_s h0]
      exact ih _ (by omega) (by omega)

theorem p_row {M : jM} (hI : Inv M) {row : Int} (hrow : -2147483648 ≤ row ∧ row ≤ 2147483647) {sort : Int} (hsort : -2147483648 ≤ sort ∧ sort ≤ 2147483647) {n : Int} (hn : -2147483648 ≤ n ∧ n ≤ 2147483647) : jCt yX11_row cX11_row 4 (some .int) 2 [jR 0, jI row, jI sort, jI n] M (fun z M1 => jCt yX12_row cX12_row 5 (some .int) 2 [jR 928, jI row, jI sort, jI n] M1 (fun z2 M2 => z = z2 ∧ Inv M2)) := by
  have hC := hI.cr
  have hn := hC.cnt
  have hg := hC.rng
  refine jCt_of mt_yX11_row (Nat.le_of_ble_eq_true rfl) (fun X => ?_)
  refine e_iload_n (i := 1) 1 dX11_row_0 rfl rfl rfl ?_
  refine e_iconst 2 dX11_row_1 rfl ?_
  refine e_iconst 3 dX11_row_2 rfl ?_
  refine e_callS 6 mt_yX11_within ms_yX11_within wd_531 (by decide) dX11_row_3 rfl rfl (Nat.le_of_ble_eq_true rfl) (jroom (by decide)) rfl (c_within (by omega) (by omega) (by omega) (fun w3 => ?_) (fun w3 => ?_))
  · dsimp only [jpush]
    refine e_if_eq 9 18 dX11_row_6 (by decide) (by decide) rfl (fun h => absurd h (by decide)) (fun _ => ?_)
    refine e_iload_n (i := 2) 10 dX11_row_9 rfl rfl rfl ?_
    refine e_iconst 11 dX11_row_10 rfl ?_
    refine e_iconst 12 dX11_row_11 rfl ?_
    refine e_callS 15 mt_yX11_within ms_yX11_within wd_531 (by decide) dX11_row_12 rfl rfl (Nat.le_of_ble_eq_true rfl) (jroom (by decide)) rfl (c_within (by omega) (by omega) (by omega) (fun w12 => ?_) (fun w12 => ?_))
    · dsimp only [jpush]
      refine e_if_ne 18 21 dX11_row_15 (by decide) (by decide) rfl (fun _ => ?_) (fun h => absurd h (by decide))
      refine e_iload_n (i := 3) 22 dX11_row_21 rfl rfl rfl ?_
      refine e_iconst 23 dX11_row_22 rfl ?_
      refine e_bipush 25 dX11_row_23 (by decide) rfl ?_
      refine e_callS 28 mt_yX11_within ms_yX11_within wd_531 (by decide) dX11_row_25 rfl rfl (Nat.le_of_ble_eq_true rfl) (jroom (by decide)) rfl (c_within (by omega) (by omega) (by omega) (fun w25 => ?_) (fun w25 => ?_))
      · dsimp only [jpush]
        refine e_if_ne 31 34 dX11_row_28 (by decide) (by decide) rfl (fun _ => ?_) (fun h => absurd h (by decide))
        refine e_aload_n (i := 0) 35 dX11_row_34 rfl rfl rfl ?_
        refine e_getr (j := 4) 38 fl_11_33 dX11_row_35 at_0 rfl rfl tp_0_4 rfl ?_
        refine e_iload_n (i := 1) 39 dX11_row_38 rfl rfl rfl ?_
        refine e_aald 40 dX11_row_39 ar_894 (by decide) (by omega) (by omega) (tp_row (by omega) (by omega)) rfl ?_
        refine e_iload_n (i := 2) 41 dX11_row_40 rfl rfl rfl ?_
        refine e_iload_n (i := 3) 42 dX11_row_41 rfl rfl rfl ?_
        refine e_callV 45 mt_yX7_begin mv_yX7_begin wd_1200 (by decide) dX11_row_42 (at_row (by omega) (by omega)) jc_7 rfl rfl rfl (Nat.le_of_ble_eq_true rfl) (jroom (by decide)) rfl (c_rowbegin (by omega) (by omega) (by omega) ?_)
        dsimp only [jpush]
        refine e_iconst 46 dX11_row_45 rfl ?_
        refine e_iret dX11_row_46 ?_
        refine mem_gen (P := fun M1 => jCt yX12_row cX12_row 5 (some .int) 2 [jR 928, jI row, jI sort, jI n] M1 (fun z2 M2 => _ = z2 ∧ Inv M2)) (fun M1 hM1 => ?_)
        have hA : M1 929 = M 929 := by rw [hM1]; try (funext j; simp (disch := omega) only [cZero_o, jset_k])
        have hT : M1 928 0 = 0 := by rw [hM1]; first | exact hI.1 | (simp (disch := omega) only [cZero_o, jset_k]; exact hI.1)
        refine jCt_of mt_yX12_row (Nat.le_of_ble_eq_true rfl) (fun X2 => ?_)
        refine e_aload_n (i := 0) 1 dX12_row_0 rfl rfl rfl ?_
        refine e_iconst 2 dX12_row_1 rfl ?_
        refine e_put0 (j := 0) 5 fl_12_1 dX12_row_2 at_928 rfl rfl rfl (by decide) (by first | exact hT | (simp (disch := omega) only [jset_k, jset_j, jset_same, true_and, and_true, hA]; exact hT)) rfl ?_
        refine e_iload_n (i := 1) 6 dX12_row_5 rfl rfl rfl ?_
        refine e_i2l 7 dX12_row_6 (by omega) rfl ?_
        refine e_lconst0 8 dX12_row_7 rfl ?_
        refine e_ldc2 (z := (3)) 11 (ix := 159) wd_1442 (by decide) dX12_row_8 rfl ?_
        refine e_callS 14 mt_yX12_within ms_yX12_within wd_1390 (by decide) dX12_row_11 rfl rfl (Nat.le_of_ble_eq_true rfl) (jroom (by decide)) rfl (m_within (by (try simp (disch := omega) only [jset_k, jset_j, jset_same, true_and, and_true, hA]); omega) (by (try simp (disch := omega) only [jset_k, jset_j, jset_same, true_and, and_true, hA]); omega) (by (try simp (disch := omega) only [jset_k, jset_j, jset_same, true_and, and_true, hA]); omega) (fun w11 => ?_) (fun w11 => ?_))
        · dsimp only [jpush]
          (try simp (disch := omega) only [jset_k, jset_j, jset_same, true_and, and_true, hA] at w11)
          (try simp (disch := omega) only [jset_k, jset_j, jset_same, true_and, and_true, hA])
          first
           | (exfalso; omega)
           | (skip
              refine e_if_eq 17 29 dX12_row_14 (by decide) (by decide) rfl (fun h => absurd h (by decide)) (fun _ => ?_)
              refine e_iload_n (i := 2) 18 dX12_row_17 rfl rfl rfl ?_
              refine e_i2l 19 dX12_row_18 (by omega) rfl ?_
              refine e_lconst0 20 dX12_row_19 rfl ?_
              refine e_ldc2 (z := (3)) 23 (ix := 159) wd_1442 (by decide) dX12_row_20 rfl ?_
              refine e_callS 26 mt_yX12_within ms_yX12_within wd_1390 (by decide) dX12_row_23 rfl rfl (Nat.le_of_ble_eq_true rfl) (jroom (by decide)) rfl (m_within (by (try simp (disch := omega) only [jset_k, jset_j, jset_same, true_and, and_true, hA]); omega) (by (try simp (disch := omega) only [jset_k, jset_j, jset_same, true_and, and_true, hA]); omega) (by (try simp (disch := omega) only [jset_k, jset_j, jset_same, true_and, and_true, hA]); omega) (fun w23 => ?_) (fun w23 => ?_))
              · dsimp only [jpush]
                (try simp (disch := omega) only [jset_k, jset_j, jset_same, true_and, and_true, hA] at w23)
                (try simp (disch := omega) only [jset_k, jset_j, jset_same, true_and, and_true, hA])
                first
                 | (exfalso; omega)
                 | (skip
                    refine e_if_ne 29 32 dX12_row_26 (by decide) (by decide) rfl (fun _ => ?_) (fun h => absurd h (by decide))
                    refine e_iload_n (i := 3) 33 dX12_row_32 rfl rfl rfl ?_
                    refine e_i2l 34 dX12_row_33 (by omega) rfl ?_
                    refine e_lconst0 35 dX12_row_34 rfl ?_
                    refine e_ldc2 (z := (40)) 38 (ix := 353) wd_1807 (by decide) dX12_row_35 rfl ?_
                    refine e_callS 41 mt_yX12_within ms_yX12_within wd_1390 (by decide) dX12_row_38 rfl rfl (Nat.le_of_ble_eq_true rfl) (jroom (by decide)) rfl (m_within (by (try simp (disch := omega) only [jset_k, jset_j, jset_same, true_and, and_true, hA]); omega) (by (try simp (disch := omega) only [jset_k, jset_j, jset_same, true_and, and_true, hA]); omega) (by (try simp (disch := omega) only [jset_k, jset_j, jset_same, true_and, and_true, hA]); omega) (fun w38 => ?_) (fun w38 => ?_))
                    · dsimp only [jpush]
                      (try simp (disch := omega) only [jset_k, jset_j, jset_same, true_and, and_true, hA] at w38)
                      (try simp (disch := omega) only [jset_k, jset_j, jset_same, true_and, and_true, hA])
                      first
                       | (exfalso; omega)
                       | (skip
                          refine e_if_ne 44 47 dX12_row_41 (by decide) (by decide) rfl (fun _ => ?_) (fun h => absurd h (by decide))
                          refine e_aload_n (i := 0) 48 dX12_row_47 rfl rfl rfl ?_
                          refine e_getr (j := 31) 51 fl_12_69 dX12_row_48 at_928 rfl rfl tp_928_31 rfl ?_
                          refine e_iload_n (i := 1) 52 dX12_row_51 rfl rfl rfl ?_
                          refine e_iload_n (i := 2) 53 dX12_row_52 rfl rfl rfl ?_
                          refine e_iast 54 dX12_row_53 ar_946 (by omega) (by omega) (by omega) rfl ?_
                          refine e_aload_n (i := 0) 55 dX12_row_54 rfl rfl rfl ?_
                          refine e_getr (j := 32) 58 fl_12_72 dX12_row_55 at_928 rfl rfl tp_928_32 rfl ?_
                          refine e_iload_n (i := 1) 59 dX12_row_58 rfl rfl rfl ?_
                          refine e_iload_n (i := 3) 60 dX12_row_59 rfl rfl rfl ?_
                          refine e_iast 61 dX12_row_60 ar_947 (by omega) (by omega) (by omega) rfl ?_
                          refine e_iconst 62 dX12_row_61 rfl ?_
                          refine e_istore (lsn := [(4, _), (0, _), (1, _), (2, _), (3, _)]) 64 dX12_row_62 (by decide) rfl rfl ?_
                          have eL := fun (h : _) => l_row (X := X2) (M := jset (jset M1 946 row sort) 947 row n) (r := row) (s := sort) (w := n) (Q := fun z2 M2 => 0 = z2 ∧ Inv M2) (by omega) (by omega) h n.toNat 0 (by omega) (by omega)
                          rw [rZero_0] at eL
                          refine eL ⟨rfl, ?_⟩
                          subst hM1
                          refine hI.rows (fun k j a b c d => ?_) ?_
                          · simp (disch := omega) only [rZero_o, cZero_o, jset_k]
                          · intro r r0 r1
                            by_cases e : r = row
                            · rw [e]
                              refine Or.inr ⟨?_, ?_, ?_, ?_, fun i i0 i1 => ?_⟩
                              · simp (disch := omega) only [rZero_o, cZero_o, jset_k, jset_j, jset_same]
                                omega
                              · simp (disch := omega) only [rZero_o, cZero_o, jset_k, jset_j, jset_same]
                                omega
                              · simp (disch := omega) only [rZero_o, cZero_o, jset_k, jset_j, jset_same]
                              · simp (disch := omega) only [rZero_o, cZero_o, jset_k, jset_j, jset_same]
                              · simp (disch := omega) only [rZero_o, cZero_o, jset_k, jset_j, jset_same] at i1
                                rw [rZero_in i0 i1, rZero_o (by omega)]
                                simp (disch := omega) only [jset_k]
                                exact cZero_in i0 (by omega)
                            · have h := hI.2.2.2.2.2.1 r r0 r1
                              simp (disch := omega) only [rZero_o, cZero_o, jset_k, jset_j, jset_same]
                              refine h.imp id (fun h => ⟨h.1, h.2.1, h.2.2.1, h.2.2.2.1, fun i i0 i1 => ?_⟩)
                              rw [rZero_j (by omega)]
                              simp (disch := omega) only [jset_k, cZero_o]
                              exact h.2.2.2.2 i i0 i1)
                    · dsimp only [jpush]
                      (try simp (disch := omega) only [jset_k, jset_j, jset_same, true_and, and_true, hA] at w38)
                      (try simp (disch := omega) only [jset_k, jset_j, jset_same, true_and, and_true, hA])
                      first
                       | (exfalso; omega)
                       | (skip
                          refine e_if_ne 44 47 dX12_row_41 (by decide) (by decide) rfl (fun h => absurd h (by decide)) (fun _ => ?_)
                          refine e_bipush 46 dX12_row_44 (by decide) rfl ?_
                          refine e_iret dX12_row_46 ?_
                          first
                            | (exact ⟨by omega, hI⟩)
                            | (exfalso; omega)
                            | (subst hM1
                               exact ⟨by omega, hI⟩)
                            | ((try subst hM1)
                               skip)))
              · dsimp only [jpush]
                (try simp (disch := omega) only [jset_k, jset_j, jset_same, true_and, and_true, hA] at w23)
                (try simp (disch := omega) only [jset_k, jset_j, jset_same, true_and, and_true, hA])
                first
                 | (exfalso; omega)
                 | (skip
                    refine e_if_ne 29 32 dX12_row_26 (by decide) (by decide) rfl (fun h => absurd h (by decide)) (fun _ => ?_)
                    refine e_bipush 31 dX12_row_29 (by decide) rfl ?_
                    refine e_iret dX12_row_31 ?_
                    first
                      | (exact ⟨by omega, hI⟩)
                      | (exfalso; omega)
                      | (subst hM1
                         exact ⟨by omega, hI⟩)
                      | ((try subst hM1)
                         skip)))
        · dsimp only [jpush]
          (try simp (disch := omega) only [jset_k, jset_j, jset_same, true_and, and_true, hA] at w11)
          (try simp (disch := omega) only [jset_k, jset_j, jset_same, true_and, and_true, hA])
          first
           | (exfalso; omega)
           | (skip
              refine e_if_eq 17 29 dX12_row_14 (by decide) (by decide) rfl (fun _ => ?_) (fun h => absurd h (by decide))
              refine e_bipush 31 dX12_row_29 (by decide) rfl ?_
              refine e_iret dX12_row_31 ?_
              first
                | (exact ⟨by omega, hI⟩)
                | (exfalso; omega)
                | (subst hM1
                   exact ⟨by omega, hI⟩)
                | ((try subst hM1)
                   skip))
      · dsimp only [jpush]
        refine e_if_ne 31 34 dX11_row_28 (by decide) (by decide) rfl (fun h => absurd h (by decide)) (fun _ => ?_)
        refine e_bipush 33 dX11_row_31 (by decide) rfl ?_
        refine e_iret dX11_row_33 ?_
        refine jCt_of mt_yX12_row (Nat.le_of_ble_eq_true rfl) (fun X2 => ?_)
        refine e_aload_n (i := 0) 1 dX12_row_0 rfl rfl rfl ?_
        refine e_iconst 2 dX12_row_1 rfl ?_
        refine e_put0 (j := 0) 5 fl_12_1 dX12_row_2 at_928 rfl rfl rfl (by decide) hI.1 rfl ?_
        refine e_iload_n (i := 1) 6 dX12_row_5 rfl rfl rfl ?_
        refine e_i2l 7 dX12_row_6 (by omega) rfl ?_
        refine e_lconst0 8 dX12_row_7 rfl ?_
        refine e_ldc2 (z := (3)) 11 (ix := 159) wd_1442 (by decide) dX12_row_8 rfl ?_
        refine e_callS 14 mt_yX12_within ms_yX12_within wd_1390 (by decide) dX12_row_11 rfl rfl (Nat.le_of_ble_eq_true rfl) (jroom (by decide)) rfl (m_within (by omega) (by omega) (by omega) (fun w11 => ?_) (fun w11 => ?_))
        · dsimp only [jpush]
          first
           | (exfalso; omega)
           | (skip
              refine e_if_eq 17 29 dX12_row_14 (by decide) (by decide) rfl (fun h => absurd h (by decide)) (fun _ => ?_)
              refine e_iload_n (i := 2) 18 dX12_row_17 rfl rfl rfl ?_
              refine e_i2l 19 dX12_row_18 (by omega) rfl ?_
              refine e_lconst0 20 dX12_row_19 rfl ?_
              refine e_ldc2 (z := (3)) 23 (ix := 159) wd_1442 (by decide) dX12_row_20 rfl ?_
              refine e_callS 26 mt_yX12_within ms_yX12_within wd_1390 (by decide) dX12_row_23 rfl rfl (Nat.le_of_ble_eq_true rfl) (jroom (by decide)) rfl (m_within (by omega) (by omega) (by omega) (fun w23 => ?_) (fun w23 => ?_))
              · dsimp only [jpush]
                first
                 | (exfalso; omega)
                 | (skip
                    refine e_if_ne 29 32 dX12_row_26 (by decide) (by decide) rfl (fun _ => ?_) (fun h => absurd h (by decide))
                    refine e_iload_n (i := 3) 33 dX12_row_32 rfl rfl rfl ?_
                    refine e_i2l 34 dX12_row_33 (by omega) rfl ?_
                    refine e_lconst0 35 dX12_row_34 rfl ?_
                    refine e_ldc2 (z := (40)) 38 (ix := 353) wd_1807 (by decide) dX12_row_35 rfl ?_
                    refine e_callS 41 mt_yX12_within ms_yX12_within wd_1390 (by decide) dX12_row_38 rfl rfl (Nat.le_of_ble_eq_true rfl) (jroom (by decide)) rfl (m_within (by omega) (by omega) (by omega) (fun w38 => ?_) (fun w38 => ?_))
                    · dsimp only [jpush]
                      first
                       | (exfalso; omega)
                       | (skip
                          refine e_if_ne 44 47 dX12_row_41 (by decide) (by decide) rfl (fun _ => ?_) (fun h => absurd h (by decide))
                          refine e_aload_n (i := 0) 48 dX12_row_47 rfl rfl rfl ?_
                          refine e_getr (j := 31) 51 fl_12_69 dX12_row_48 at_928 rfl rfl tp_928_31 rfl ?_
                          refine e_iload_n (i := 1) 52 dX12_row_51 rfl rfl rfl ?_
                          refine e_iload_n (i := 2) 53 dX12_row_52 rfl rfl rfl ?_
                          refine e_iast 54 dX12_row_53 ar_946 (by omega) (by omega) (by omega) rfl ?_
                          refine e_aload_n (i := 0) 55 dX12_row_54 rfl rfl rfl ?_
                          refine e_getr (j := 32) 58 fl_12_72 dX12_row_55 at_928 rfl rfl tp_928_32 rfl ?_
                          refine e_iload_n (i := 1) 59 dX12_row_58 rfl rfl rfl ?_
                          refine e_iload_n (i := 3) 60 dX12_row_59 rfl rfl rfl ?_
                          refine e_iast 61 dX12_row_60 ar_947 (by omega) (by omega) (by omega) rfl ?_
                          refine e_iconst 62 dX12_row_61 rfl ?_
                          refine e_istore (lsn := [(4, _), (0, _), (1, _), (2, _), (3, _)]) 64 dX12_row_62 (by decide) rfl rfl ?_
                          have eL := fun (h : _) => l_row (X := X2) (M := jset (jset M1 946 row sort) 947 row n) (r := row) (s := sort) (w := n) (Q := fun z2 M2 => 0 = z2 ∧ Inv M2) (by omega) (by omega) h n.toNat 0 (by omega) (by omega)
                          rw [rZero_0] at eL
                          refine eL ⟨rfl, ?_⟩
                          subst hM1
                          refine hI.rows (fun k j a b c d => ?_) ?_
                          · simp (disch := omega) only [rZero_o, cZero_o, jset_k]
                          · intro r r0 r1
                            by_cases e : r = row
                            · rw [e]
                              refine Or.inr ⟨?_, ?_, ?_, ?_, fun i i0 i1 => ?_⟩
                              · simp (disch := omega) only [rZero_o, cZero_o, jset_k, jset_j, jset_same]
                                omega
                              · simp (disch := omega) only [rZero_o, cZero_o, jset_k, jset_j, jset_same]
                                omega
                              · simp (disch := omega) only [rZero_o, cZero_o, jset_k, jset_j, jset_same]
                              · simp (disch := omega) only [rZero_o, cZero_o, jset_k, jset_j, jset_same]
                              · simp (disch := omega) only [rZero_o, cZero_o, jset_k, jset_j, jset_same] at i1
                                rw [rZero_in i0 i1, rZero_o (by omega)]
                                simp (disch := omega) only [jset_k]
                                exact cZero_in i0 (by omega)
                            · have h := hI.2.2.2.2.2.1 r r0 r1
                              simp (disch := omega) only [rZero_o, cZero_o, jset_k, jset_j, jset_same]
                              refine h.imp id (fun h => ⟨h.1, h.2.1, h.2.2.1, h.2.2.2.1, fun i i0 i1 => ?_⟩)
                              rw [rZero_j (by omega)]
                              simp (disch := omega) only [jset_k, cZero_o]
                              exact h.2.2.2.2 i i0 i1)
                    · dsimp only [jpush]
                      first
                       | (exfalso; omega)
                       | (skip
                          refine e_if_ne 44 47 dX12_row_41 (by decide) (by decide) rfl (fun h => absurd h (by decide)) (fun _ => ?_)
                          refine e_bipush 46 dX12_row_44 (by decide) rfl ?_
                          refine e_iret dX12_row_46 ?_
                          first
                            | (exact ⟨by omega, hI⟩)
                            | (exfalso; omega)))
              · dsimp only [jpush]
                first
                 | (exfalso; omega)
                 | (skip
                    refine e_if_ne 29 32 dX12_row_26 (by decide) (by decide) rfl (fun h => absurd h (by decide)) (fun _ => ?_)
                    refine e_bipush 31 dX12_row_29 (by decide) rfl ?_
                    refine e_iret dX12_row_31 ?_
                    first
                      | (exact ⟨by omega, hI⟩)
                      | (exfalso; omega)))
        · dsimp only [jpush]
          first
           | (exfalso; omega)
           | (skip
              refine e_if_eq 17 29 dX12_row_14 (by decide) (by decide) rfl (fun _ => ?_) (fun h => absurd h (by decide))
              refine e_bipush 31 dX12_row_29 (by decide) rfl ?_
              refine e_iret dX12_row_31 ?_
              first
                | (exact ⟨by omega, hI⟩)
                | (exfalso; omega))
    · dsimp only [jpush]
      refine e_if_ne 18 21 dX11_row_15 (by decide) (by decide) rfl (fun h => absurd h (by decide)) (fun _ => ?_)
      refine e_bipush 20 dX11_row_18 (by decide) rfl ?_
      refine e_iret dX11_row_20 ?_
      refine jCt_of mt_yX12_row (Nat.le_of_ble_eq_true rfl) (fun X2 => ?_)
      refine e_aload_n (i := 0) 1 dX12_row_0 rfl rfl rfl ?_
      refine e_iconst 2 dX12_row_1 rfl ?_
      refine e_put0 (j := 0) 5 fl_12_1 dX12_row_2 at_928 rfl rfl rfl (by decide) hI.1 rfl ?_
      refine e_iload_n (i := 1) 6 dX12_row_5 rfl rfl rfl ?_
      refine e_i2l 7 dX12_row_6 (by omega) rfl ?_
      refine e_lconst0 8 dX12_row_7 rfl ?_
      refine e_ldc2 (z := (3)) 11 (ix := 159) wd_1442 (by decide) dX12_row_8 rfl ?_
      refine e_callS 14 mt_yX12_within ms_yX12_within wd_1390 (by decide) dX12_row_11 rfl rfl (Nat.le_of_ble_eq_true rfl) (jroom (by decide)) rfl (m_within (by omega) (by omega) (by omega) (fun w11 => ?_) (fun w11 => ?_))
      · dsimp only [jpush]
        first
         | (exfalso; omega)
         | (skip
            refine e_if_eq 17 29 dX12_row_14 (by decide) (by decide) rfl (fun h => absurd h (by decide)) (fun _ => ?_)
            refine e_iload_n (i := 2) 18 dX12_row_17 rfl rfl rfl ?_
            refine e_i2l 19 dX12_row_18 (by omega) rfl ?_
            refine e_lconst0 20 dX12_row_19 rfl ?_
            refine e_ldc2 (z := (3)) 23 (ix := 159) wd_1442 (by decide) dX12_row_20 rfl ?_
            refine e_callS 26 mt_yX12_within ms_yX12_within wd_1390 (by decide) dX12_row_23 rfl rfl (Nat.le_of_ble_eq_true rfl) (jroom (by decide)) rfl (m_within (by omega) (by omega) (by omega) (fun w23 => ?_) (fun w23 => ?_))
            · dsimp only [jpush]
              first
               | (exfalso; omega)
               | (skip
                  refine e_if_ne 29 32 dX12_row_26 (by decide) (by decide) rfl (fun _ => ?_) (fun h => absurd h (by decide))
                  refine e_iload_n (i := 3) 33 dX12_row_32 rfl rfl rfl ?_
                  refine e_i2l 34 dX12_row_33 (by omega) rfl ?_
                  refine e_lconst0 35 dX12_row_34 rfl ?_
                  refine e_ldc2 (z := (40)) 38 (ix := 353) wd_1807 (by decide) dX12_row_35 rfl ?_
                  refine e_callS 41 mt_yX12_within ms_yX12_within wd_1390 (by decide) dX12_row_38 rfl rfl (Nat.le_of_ble_eq_true rfl) (jroom (by decide)) rfl (m_within (by omega) (by omega) (by omega) (fun w38 => ?_) (fun w38 => ?_))
                  · dsimp only [jpush]
                    first
                     | (exfalso; omega)
                     | (skip
                        refine e_if_ne 44 47 dX12_row_41 (by decide) (by decide) rfl (fun _ => ?_) (fun h => absurd h (by decide))
                        refine e_aload_n (i := 0) 48 dX12_row_47 rfl rfl rfl ?_
                        refine e_getr (j := 31) 51 fl_12_69 dX12_row_48 at_928 rfl rfl tp_928_31 rfl ?_
                        refine e_iload_n (i := 1) 52 dX12_row_51 rfl rfl rfl ?_
                        refine e_iload_n (i := 2) 53 dX12_row_52 rfl rfl rfl ?_
                        refine e_iast 54 dX12_row_53 ar_946 (by omega) (by omega) (by omega) rfl ?_
                        refine e_aload_n (i := 0) 55 dX12_row_54 rfl rfl rfl ?_
                        refine e_getr (j := 32) 58 fl_12_72 dX12_row_55 at_928 rfl rfl tp_928_32 rfl ?_
                        refine e_iload_n (i := 1) 59 dX12_row_58 rfl rfl rfl ?_
                        refine e_iload_n (i := 3) 60 dX12_row_59 rfl rfl rfl ?_
                        refine e_iast 61 dX12_row_60 ar_947 (by omega) (by omega) (by omega) rfl ?_
                        refine e_iconst 62 dX12_row_61 rfl ?_
                        refine e_istore (lsn := [(4, _), (0, _), (1, _), (2, _), (3, _)]) 64 dX12_row_62 (by decide) rfl rfl ?_
                        have eL := fun (h : _) => l_row (X := X2) (M := jset (jset M1 946 row sort) 947 row n) (r := row) (s := sort) (w := n) (Q := fun z2 M2 => 0 = z2 ∧ Inv M2) (by omega) (by omega) h n.toNat 0 (by omega) (by omega)
                        rw [rZero_0] at eL
                        refine eL ⟨rfl, ?_⟩
                        subst hM1
                        refine hI.rows (fun k j a b c d => ?_) ?_
                        · simp (disch := omega) only [rZero_o, cZero_o, jset_k]
                        · intro r r0 r1
                          by_cases e : r = row
                          · rw [e]
                            refine Or.inr ⟨?_, ?_, ?_, ?_, fun i i0 i1 => ?_⟩
                            · simp (disch := omega) only [rZero_o, cZero_o, jset_k, jset_j, jset_same]
                              omega
                            · simp (disch := omega) only [rZero_o, cZero_o, jset_k, jset_j, jset_same]
                              omega
                            · simp (disch := omega) only [rZero_o, cZero_o, jset_k, jset_j, jset_same]
                            · simp (disch := omega) only [rZero_o, cZero_o, jset_k, jset_j, jset_same]
                            · simp (disch := omega) only [rZero_o, cZero_o, jset_k, jset_j, jset_same] at i1
                              rw [rZero_in i0 i1, rZero_o (by omega)]
                              simp (disch := omega) only [jset_k]
                              exact cZero_in i0 (by omega)
                          · have h := hI.2.2.2.2.2.1 r r0 r1
                            simp (disch := omega) only [rZero_o, cZero_o, jset_k, jset_j, jset_same]
                            refine h.imp id (fun h => ⟨h.1, h.2.1, h.2.2.1, h.2.2.2.1, fun i i0 i1 => ?_⟩)
                            rw [rZero_j (by omega)]
                            simp (disch := omega) only [jset_k, cZero_o]
                            exact h.2.2.2.2 i i0 i1)
                  · dsimp only [jpush]
                    first
                     | (exfalso; omega)
                     | (skip
                        refine e_if_ne 44 47 dX12_row_41 (by decide) (by decide) rfl (fun h => absurd h (by decide)) (fun _ => ?_)
                        refine e_bipush 46 dX12_row_44 (by decide) rfl ?_
                        refine e_iret dX12_row_46 ?_
                        first
                          | (exact ⟨by omega, hI⟩)
                          | (exfalso; omega)))
            · dsimp only [jpush]
              first
               | (exfalso; omega)
               | (skip
                  refine e_if_ne 29 32 dX12_row_26 (by decide) (by decide) rfl (fun h => absurd h (by decide)) (fun _ => ?_)
                  refine e_bipush 31 dX12_row_29 (by decide) rfl ?_
                  refine e_iret dX12_row_31 ?_
                  first
                    | (exact ⟨by omega, hI⟩)
                    | (exfalso; omega)))
      · dsimp only [jpush]
        first
         | (exfalso; omega)
         | (skip
            refine e_if_eq 17 29 dX12_row_14 (by decide) (by decide) rfl (fun _ => ?_) (fun h => absurd h (by decide))
            refine e_bipush 31 dX12_row_29 (by decide) rfl ?_
            refine e_iret dX12_row_31 ?_
            first
              | (exact ⟨by omega, hI⟩)
              | (exfalso; omega))
  · dsimp only [jpush]
    refine e_if_eq 9 18 dX11_row_6 (by decide) (by decide) rfl (fun _ => ?_) (fun h => absurd h (by decide))
    refine e_bipush 20 dX11_row_18 (by decide) rfl ?_
    refine e_iret dX11_row_20 ?_
    refine jCt_of mt_yX12_row (Nat.le_of_ble_eq_true rfl) (fun X2 => ?_)
    refine e_aload_n (i := 0) 1 dX12_row_0 rfl rfl rfl ?_
    refine e_iconst 2 dX12_row_1 rfl ?_
    refine e_put0 (j := 0) 5 fl_12_1 dX12_row_2 at_928 rfl rfl rfl (by decide) hI.1 rfl ?_
    refine e_iload_n (i := 1) 6 dX12_row_5 rfl rfl rfl ?_
    refine e_i2l 7 dX12_row_6 (by omega) rfl ?_
    refine e_lconst0 8 dX12_row_7 rfl ?_
    refine e_ldc2 (z := (3)) 11 (ix := 159) wd_1442 (by decide) dX12_row_8 rfl ?_
    refine e_callS 14 mt_yX12_within ms_yX12_within wd_1390 (by decide) dX12_row_11 rfl rfl (Nat.le_of_ble_eq_true rfl) (jroom (by decide)) rfl (m_within (by omega) (by omega) (by omega) (fun w11 => ?_) (fun w11 => ?_))
    · dsimp only [jpush]
      first
       | (exfalso; omega)
       | (skip
          refine e_if_eq 17 29 dX12_row_14 (by decide) (by decide) rfl (fun h => absurd h (by decide)) (fun _ => ?_)
          refine e_iload_n (i := 2) 18 dX12_row_17 rfl rfl rfl ?_
          refine e_i2l 19 dX12_row_18 (by omega) rfl ?_
          refine e_lconst0 20 dX12_row_19 rfl ?_
          refine e_ldc2 (z := (3)) 23 (ix := 159) wd_1442 (by decide) dX12_row_20 rfl ?_
          refine e_callS 26 mt_yX12_within ms_yX12_within wd_1390 (by decide) dX12_row_23 rfl rfl (Nat.le_of_ble_eq_true rfl) (jroom (by decide)) rfl (m_within (by omega) (by omega) (by omega) (fun w23 => ?_) (fun w23 => ?_))
          · dsimp only [jpush]
            first
             | (exfalso; omega)
             | (skip
                refine e_if_ne 29 32 dX12_row_26 (by decide) (by decide) rfl (fun _ => ?_) (fun h => absurd h (by decide))
                refine e_iload_n (i := 3) 33 dX12_row_32 rfl rfl rfl ?_
                refine e_i2l 34 dX12_row_33 (by omega) rfl ?_
                refine e_lconst0 35 dX12_row_34 rfl ?_
                refine e_ldc2 (z := (40)) 38 (ix := 353) wd_1807 (by decide) dX12_row_35 rfl ?_
                refine e_callS 41 mt_yX12_within ms_yX12_within wd_1390 (by decide) dX12_row_38 rfl rfl (Nat.le_of_ble_eq_true rfl) (jroom (by decide)) rfl (m_within (by omega) (by omega) (by omega) (fun w38 => ?_) (fun w38 => ?_))
                · dsimp only [jpush]
                  first
                   | (exfalso; omega)
                   | (skip
                      refine e_if_ne 44 47 dX12_row_41 (by decide) (by decide) rfl (fun _ => ?_) (fun h => absurd h (by decide))
                      refine e_aload_n (i := 0) 48 dX12_row_47 rfl rfl rfl ?_
                      refine e_getr (j := 31) 51 fl_12_69 dX12_row_48 at_928 rfl rfl tp_928_31 rfl ?_
                      refine e_iload_n (i := 1) 52 dX12_row_51 rfl rfl rfl ?_
                      refine e_iload_n (i := 2) 53 dX12_row_52 rfl rfl rfl ?_
                      refine e_iast 54 dX12_row_53 ar_946 (by omega) (by omega) (by omega) rfl ?_
                      refine e_aload_n (i := 0) 55 dX12_row_54 rfl rfl rfl ?_
                      refine e_getr (j := 32) 58 fl_12_72 dX12_row_55 at_928 rfl rfl tp_928_32 rfl ?_
                      refine e_iload_n (i := 1) 59 dX12_row_58 rfl rfl rfl ?_
                      refine e_iload_n (i := 3) 60 dX12_row_59 rfl rfl rfl ?_
                      refine e_iast 61 dX12_row_60 ar_947 (by omega) (by omega) (by omega) rfl ?_
                      refine e_iconst 62 dX12_row_61 rfl ?_
                      refine e_istore (lsn := [(4, _), (0, _), (1, _), (2, _), (3, _)]) 64 dX12_row_62 (by decide) rfl rfl ?_
                      have eL := fun (h : _) => l_row (X := X2) (M := jset (jset M1 946 row sort) 947 row n) (r := row) (s := sort) (w := n) (Q := fun z2 M2 => 0 = z2 ∧ Inv M2) (by omega) (by omega) h n.toNat 0 (by omega) (by omega)
                      rw [rZero_0] at eL
                      refine eL ⟨rfl, ?_⟩
                      subst hM1
                      refine hI.rows (fun k j a b c d => ?_) ?_
                      · simp (disch := omega) only [rZero_o, cZero_o, jset_k]
                      · intro r r0 r1
                        by_cases e : r = row
                        · rw [e]
                          refine Or.inr ⟨?_, ?_, ?_, ?_, fun i i0 i1 => ?_⟩
                          · simp (disch := omega) only [rZero_o, cZero_o, jset_k, jset_j, jset_same]
                            omega
                          · simp (disch := omega) only [rZero_o, cZero_o, jset_k, jset_j, jset_same]
                            omega
                          · simp (disch := omega) only [rZero_o, cZero_o, jset_k, jset_j, jset_same]
                          · simp (disch := omega) only [rZero_o, cZero_o, jset_k, jset_j, jset_same]
                          · simp (disch := omega) only [rZero_o, cZero_o, jset_k, jset_j, jset_same] at i1
                            rw [rZero_in i0 i1, rZero_o (by omega)]
                            simp (disch := omega) only [jset_k]
                            exact cZero_in i0 (by omega)
                        · have h := hI.2.2.2.2.2.1 r r0 r1
                          simp (disch := omega) only [rZero_o, cZero_o, jset_k, jset_j, jset_same]
                          refine h.imp id (fun h => ⟨h.1, h.2.1, h.2.2.1, h.2.2.2.1, fun i i0 i1 => ?_⟩)
                          rw [rZero_j (by omega)]
                          simp (disch := omega) only [jset_k, cZero_o]
                          exact h.2.2.2.2 i i0 i1)
                · dsimp only [jpush]
                  first
                   | (exfalso; omega)
                   | (skip
                      refine e_if_ne 44 47 dX12_row_41 (by decide) (by decide) rfl (fun h => absurd h (by decide)) (fun _ => ?_)
                      refine e_bipush 46 dX12_row_44 (by decide) rfl ?_
                      refine e_iret dX12_row_46 ?_
                      first
                        | (exact ⟨by omega, hI⟩)
                        | (exfalso; omega)))
          · dsimp only [jpush]
            first
             | (exfalso; omega)
             | (skip
                refine e_if_ne 29 32 dX12_row_26 (by decide) (by decide) rfl (fun h => absurd h (by decide)) (fun _ => ?_)
                refine e_bipush 31 dX12_row_29 (by decide) rfl ?_
                refine e_iret dX12_row_31 ?_
                first
                  | (exact ⟨by omega, hI⟩)
                  | (exfalso; omega)))
    · dsimp only [jpush]
      first
       | (exfalso; omega)
       | (skip
          refine e_if_eq 17 29 dX12_row_14 (by decide) (by decide) rfl (fun _ => ?_) (fun h => absurd h (by decide))
          refine e_bipush 31 dX12_row_29 (by decide) rfl ?_
          refine e_iret dX12_row_31 ?_
          first
            | (exact ⟨by omega, hI⟩)
            | (exfalso; omega))

