/-! PAIRS: passed; over, sell, put -/
def rPassed (a : Int → Int) (k : Int) : Nat → Int → Int → Int
  | 0, _, c => if k = -1 then c else -1
  | n + 1, p, c => if a (1010 + p) = 0 ∧ a 28 ≤ a 708 - a (890 + p) then (if c = k then p else rPassed a k n (p + 1) (c + 1)) else rPassed a k n (p + 1) c
theorem l_passed {X : jX} {k : Int} {M : jM} {Q : Int → jM → Prop} (hC : CR M) (hk : -2147483648 ≤ k ∧ k ≤ 2147483647) : ∀ (n : Nat) (ii c : Int), 0 ≤ ii → ii + n = M 929 709 → (0 ≤ c ∧ c ≤ ii) → Q (rPassed (M 929) k n ii c) M → jE X yX11_passed cX11_passed 4 (some .int) 3 Q M 4 [(0, jR 0), (1, jI k), (2, jI c), (3, jI ii)] [] := by
  intro n
  induction n with
  | zero =>
    intro ii c h0 hi hr h
    have hn := hC.cnt
    have hg := hC.rng
    have hu := hC.rule
    rw [rPassed] at h
    refine e_iload_n (i := 3) 5 dX11_passed_4 rfl rfl rfl ?_
    refine e_aload_n (i := 0) 6 dX11_passed_5 rfl rfl rfl ?_
    refine e_getr (j := 0) 9 fl_11_10 dX11_passed_6 at_0 rfl rfl tp_0_0 rfl ?_
    refine e_geti (j := 10) 12 fl_11_271 dX11_passed_9 at_1 (by decide) rfl rfl (fun r9 => ?_)
    refine e_icmp_ge 15 42 dX11_passed_12 (by omega) (by omega) (by decide) rfl (fun b12 => ?_) (fun b12 => ?_)
    · skip
      refine e_iload_n (i := 1) 43 dX11_passed_42 rfl rfl rfl ?_
      refine e_iconst 44 dX11_passed_43 rfl ?_
      refine e_icmp_ne 47 51 dX11_passed_44 (by omega) (by decide) (by decide) rfl (fun b44 => ?_) (fun b44 => ?_)
      · skip
        refine e_iconst 52 dX11_passed_51 rfl ?_
        refine e_iret dX11_passed_52 ?_
        rw [if_neg (by omega)] at h
        exact h
      · skip
        refine e_iload_n (i := 2) 48 dX11_passed_47 rfl rfl rfl ?_
        refine e_goto 52 dX11_passed_48 (by decide) ?_
        refine e_iret dX11_passed_52 ?_
        rw [if_pos (by omega)] at h
        exact h
    · omega
  | succ n ih =>
    intro ii c h0 hi hr h
    have hn := hC.cnt
    have hg := hC.rng
    have hu := hC.rule
    rw [rPassed] at h
    refine e_iload_n (i := 3) 5 dX11_passed_4 rfl rfl rfl ?_
    refine e_aload_n (i := 0) 6 dX11_passed_5 rfl rfl rfl ?_
    refine e_getr (j := 0) 9 fl_11_10 dX11_passed_6 at_0 rfl rfl tp_0_0 rfl ?_
    refine e_geti (j := 10) 12 fl_11_271 dX11_passed_9 at_1 (by decide) rfl rfl (fun r9 => ?_)
    refine e_icmp_ge 15 42 dX11_passed_12 (by omega) (by omega) (by decide) rfl (fun b12 => ?_) (fun b12 => ?_)
    · omega
    · skip
      refine e_aload_n (i := 0) 16 dX11_passed_15 rfl rfl rfl ?_
      refine e_getr (j := 0) 19 fl_11_10 dX11_passed_16 at_0 rfl rfl tp_0_0 rfl ?_
      refine e_iload_n (i := 3) 20 dX11_passed_19 rfl rfl rfl ?_
      refine e_callV 23 mt_yX8_isPassed mv_yX8_isPassed wd_884 (by decide) dX11_passed_20 at_1 jc_8 rfl rfl rfl (Nat.le_of_ble_eq_true rfl) (jroom (by decide)) rfl (c_isPassed (by omega) hC (fun w20 => ?_) (fun w20 => ?_))
      · dsimp only [jpush]
        refine e_if_eq 26 36 dX11_passed_23 (by decide) (by decide) rfl (fun h => absurd h (by decide)) (fun _ => ?_)
        refine e_iload_n (i := 2) 27 dX11_passed_26 rfl rfl rfl ?_
        refine e_iload_n (i := 1) 28 dX11_passed_27 rfl rfl rfl ?_
        refine e_icmp_ne 31 33 dX11_passed_28 (by omega) (by omega) (by decide) rfl (fun b28 => ?_) (fun b28 => ?_)
        · skip
          refine e_iinc (lsn := [(2, _), (0, _), (1, _), (3, _)]) 36 dX11_passed_33 rfl (by decide) rfl rfl ?_
          refine e_iinc (lsn := [(3, _), (2, _), (0, _), (1, _)]) 39 dX11_passed_36 rfl (by decide) rfl rfl ?_
          refine e_goto 4 dX11_passed_39 (by decide) ?_
          refine e_ls (ls2 := [(0, _), (1, _), (2, _), (3, _)]) rfl ?_
          rw [if_pos w20.2, if_neg (by omega)] at h
          exact ih _ _ (by omega) (by omega) (by omega) h
        · skip
          refine e_iload_n (i := 3) 32 dX11_passed_31 rfl rfl rfl ?_
          refine e_iret dX11_passed_32 ?_
          rw [if_pos w20.2, if_pos (by omega)] at h
          exact h
      · dsimp only [jpush]
        refine e_if_eq 26 36 dX11_passed_23 (by decide) (by decide) rfl (fun _ => ?_) (fun h => absurd h (by decide))
        refine e_iinc (lsn := [(3, _), (0, _), (1, _), (2, _)]) 39 dX11_passed_36 rfl (by decide) rfl rfl ?_
        refine e_goto 4 dX11_passed_39 (by decide) ?_
        refine e_ls (ls2 := [(0, _), (1, _), (2, _), (3, _)]) rfl ?_
        rw [if_neg (fun q => w20 ⟨by omega, q⟩)] at h
        exact ih _ _ (by omega) (by omega) (by omega) h

theorem c_passed {k : Int} {M : jM} {Q : Int → jM → Prop} (hC : CR M) (hk : -2147483648 ≤ k ∧ k ≤ 2147483647) (h : Q (rPassed (M 929) k (M 929 709).toNat 0 0) M) : jCt yX11_passed cX11_passed 4 (some .int) 3 [jR 0, jI k] M Q := by
  refine jCt_of mt_yX11_passed (Nat.le_of_ble_eq_true rfl) (fun X => ?_)
  have hg := hC.rng
  refine e_iconst 1 dX11_passed_0 rfl ?_
  refine e_istore_n (i := 2) (lsn := [(2, _), (0, _), (1, _)]) 2 dX11_passed_1 rfl (by decide) rfl rfl ?_
  refine e_iconst 3 dX11_passed_2 rfl ?_
  refine e_istore_n (i := 3) (lsn := [(3, _), (2, _), (0, _), (1, _)]) 4 dX11_passed_3 rfl (by decide) rfl rfl ?_
  refine e_ls (ls2 := [(0, _), (1, _), (2, _), (3, _)]) rfl ?_
  exact l_passed hC hk (M 929 709).toNat 0 0 (by omega) (by omega) (by omega) h

theorem lm_passed {X : jX} {k : Int} {M : jM} {Q : Int → jM → Prop} (hC : CR M) (hk : -2147483648 ≤ k ∧ k ≤ 2147483647) : ∀ (n : Nat) (ii c : Int), 0 ≤ ii → ii + n = M 929 709 → (0 ≤ c ∧ c ≤ ii) → Q (rPassed (M 929) k n ii c) M → jE X yX12_passed cX12_passed 4 (some .int) 3 Q M 9 [(0, jR 928), (1, jI k), (2, jI c), (3, jI ii)] [] := by
  intro n
  induction n with
  | zero =>
    intro ii c h0 hi hr h
    have hn := hC.cnt
    have hg := hC.rng
    have hu := hC.rule
    rw [rPassed] at h
    refine e_iload_n (i := 3) 10 dX12_passed_9 rfl rfl rfl ?_
    refine e_aload_n (i := 0) 11 dX12_passed_10 rfl rfl rfl ?_
    refine e_getr (j := 1) 14 fl_12_13 dX12_passed_11 at_928 rfl rfl tp_928_1 rfl ?_
    refine e_sipush 17 dX12_passed_14 (by decide) rfl ?_
    refine e_iald 18 dX12_passed_17 ar_929 (by decide) (by decide) rfl (fun r17 => ?_)
    refine e_icmp_ge 21 48 dX12_passed_18 (by omega) (by omega) (by decide) rfl (fun b18 => ?_) (fun b18 => ?_)
    · skip
      refine e_iload_n (i := 1) 49 dX12_passed_48 rfl rfl rfl ?_
      refine e_iconst 50 dX12_passed_49 rfl ?_
      refine e_icmp_ne 53 57 dX12_passed_50 (by omega) (by decide) (by decide) rfl (fun b50 => ?_) (fun b50 => ?_)
      · skip
        refine e_iconst 58 dX12_passed_57 rfl ?_
        refine e_iret dX12_passed_58 ?_
        rw [if_neg (by omega)] at h
        exact h
      · skip
        refine e_iload_n (i := 2) 54 dX12_passed_53 rfl rfl rfl ?_
        refine e_goto 58 dX12_passed_54 (by decide) ?_
        refine e_iret dX12_passed_58 ?_
        rw [if_pos (by omega)] at h
        exact h
    · omega
  | succ n ih =>
    intro ii c h0 hi hr h
    have hn := hC.cnt
    have hg := hC.rng
    have hu := hC.rule
    rw [rPassed] at h
    refine e_iload_n (i := 3) 10 dX12_passed_9 rfl rfl rfl ?_
    refine e_aload_n (i := 0) 11 dX12_passed_10 rfl rfl rfl ?_
    refine e_getr (j := 1) 14 fl_12_13 dX12_passed_11 at_928 rfl rfl tp_928_1 rfl ?_
    refine e_sipush 17 dX12_passed_14 (by decide) rfl ?_
    refine e_iald 18 dX12_passed_17 ar_929 (by decide) (by decide) rfl (fun r17 => ?_)
    refine e_icmp_ge 21 48 dX12_passed_18 (by omega) (by omega) (by decide) rfl (fun b18 => ?_) (fun b18 => ?_)
    · omega
    · skip
      refine e_aload_n (i := 0) 22 dX12_passed_21 rfl rfl rfl ?_
      refine e_iload_n (i := 3) 23 dX12_passed_22 rfl rfl rfl ?_
      refine e_callV 26 mt_yX12_isPassed mv_yX12_isPassed wd_1603 (by decide) dX12_passed_23 at_928 jc_12 rfl rfl rfl (Nat.le_of_ble_eq_true rfl) (jroom (by decide)) rfl (m_isPassed (by omega) (by have := hC.plr (p := ii) (by omega) (by omega); omega) (fun w23 => ?_) (fun w23 => ?_))
      · dsimp only [jpush]
        refine e_if_ne 29 32 dX12_passed_26 (by decide) (by decide) rfl (fun _ => ?_) (fun h => absurd h (by decide))
        refine e_iload_n (i := 2) 33 dX12_passed_32 rfl rfl rfl ?_
        refine e_iload_n (i := 1) 34 dX12_passed_33 rfl rfl rfl ?_
        refine e_icmp_ne 37 39 dX12_passed_34 (by omega) (by omega) (by decide) rfl (fun b34 => ?_) (fun b34 => ?_)
        · skip
          refine e_iinc (lsn := [(2, _), (0, _), (1, _), (3, _)]) 42 dX12_passed_39 rfl (by decide) rfl rfl ?_
          refine e_iinc (lsn := [(3, _), (2, _), (0, _), (1, _)]) 45 dX12_passed_42 rfl (by decide) rfl rfl ?_
          refine e_goto 9 dX12_passed_45 (by decide) ?_
          refine e_ls (ls2 := [(0, _), (1, _), (2, _), (3, _)]) rfl ?_
          rw [if_pos (by omega), if_neg (by omega)] at h
          exact ih _ _ (by omega) (by omega) (by omega) h
        · skip
          refine e_iload_n (i := 3) 38 dX12_passed_37 rfl rfl rfl ?_
          refine e_iret dX12_passed_38 ?_
          rw [if_pos (by omega), if_pos (by omega)] at h
          exact h
      · dsimp only [jpush]
        refine e_if_ne 29 32 dX12_passed_26 (by decide) (by decide) rfl (fun h => absurd h (by decide)) (fun _ => ?_)
        refine e_goto 42 dX12_passed_29 (by decide) ?_
        refine e_iinc (lsn := [(3, _), (0, _), (1, _), (2, _)]) 45 dX12_passed_42 rfl (by decide) rfl rfl ?_
        refine e_goto 9 dX12_passed_45 (by decide) ?_
        refine e_ls (ls2 := [(0, _), (1, _), (2, _), (3, _)]) rfl ?_
        rw [if_neg (by omega)] at h
        exact ih _ _ (by omega) (by omega) (by omega) h

theorem m_passed {k : Int} {M : jM} {Q : Int → jM → Prop} (hC : CR M) (hk : -2147483648 ≤ k ∧ k ≤ 2147483647) (ht : M 928 0 = 0) (h : Q (rPassed (M 929) k (M 929 709).toNat 0 0) M) : jCt yX12_passed cX12_passed 4 (some .int) 3 [jR 928, jI k] M Q := by
  refine jCt_of mt_yX12_passed (Nat.le_of_ble_eq_true rfl) (fun X => ?_)
  have hg := hC.rng
  refine e_aload_n (i := 0) 1 dX12_passed_0 rfl rfl rfl ?_
  refine e_iconst 2 dX12_passed_1 rfl ?_
  refine e_put0 (j := 0) 5 fl_12_1 dX12_passed_2 at_928 rfl rfl rfl (by decide) ht rfl ?_
  refine e_iconst 6 dX12_passed_5 rfl ?_
  refine e_istore_n (i := 2) (lsn := [(2, _), (0, _), (1, _)]) 7 dX12_passed_6 rfl (by decide) rfl rfl ?_
  refine e_iconst 8 dX12_passed_7 rfl ?_
  refine e_istore_n (i := 3) (lsn := [(3, _), (2, _), (0, _), (1, _)]) 9 dX12_passed_8 rfl (by decide) rfl rfl ?_
  refine e_ls (ls2 := [(0, _), (1, _), (2, _), (3, _)]) rfl ?_
  exact lm_passed hC hk (M 929 709).toNat 0 0 (by omega) (by omega) (by omega) h

theorem p_passed {M : jM} (hI : Inv M) {k : Int} (hk : -2147483648 ≤ k ∧ k ≤ 2147483647) : jCt yX11_passed cX11_passed 4 (some .int) 3 [jR 0, jI k] M (fun z M1 => jCt yX12_passed cX12_passed 4 (some .int) 3 [jR 928, jI k] M1 (fun z2 M2 => z = z2 ∧ Inv M2)) := by
  exact c_passed hI.cr hk (m_passed hI.cr hk hI.1 ⟨rfl, hI⟩)

theorem p_over {M : jM} (hI : Inv M) {pledge : Int} (hpledge : -2147483648 ≤ pledge ∧ pledge ≤ 2147483647) : jCt yX11_over cX11_over 4 (some .int) 2 [jR 0, jI pledge] M (fun z M1 => jCt yX12_over cX12_over 3 (some .int) 2 [jR 928, jI pledge] M1 (fun z2 M2 => z = z2 ∧ Inv M2)) := by
  have hC := hI.cr
  have hn := hC.cnt
  have hg := hC.rng
  refine jCt_of mt_yX11_over (Nat.le_of_ble_eq_true rfl) (fun X => ?_)
  refine e_aload_n (i := 0) 1 dX11_over_0 rfl rfl rfl ?_
  refine e_getr (j := 0) 4 fl_11_10 dX11_over_1 at_0 rfl rfl tp_0_0 rfl ?_
  refine e_iload_n (i := 1) 5 dX11_over_4 rfl rfl rfl ?_
  refine e_callV 8 mt_yX8_hasPledge mv_yX8_hasPledge wd_854 (by decide) dX11_over_5 at_1 jc_8 rfl rfl rfl (Nat.le_of_ble_eq_true rfl) (jroom (by decide)) rfl (c_hasPledge (by omega) (fun w5 => ?_) (fun w5 => ?_))
  · dsimp only [jpush]
    refine e_if_ne 11 14 dX11_over_8 (by decide) (by decide) rfl (fun _ => ?_) (fun h => absurd h (by decide))
    have hp := hC.pl (p := pledge) (by omega) (by omega)
    have hpr := hC.plr (p := pledge) (by omega) (by omega)
    refine e_aload_n (i := 0) 15 dX11_over_14 rfl rfl rfl ?_
    refine e_getr (j := 0) 18 fl_11_10 dX11_over_15 at_0 rfl rfl tp_0_0 rfl ?_
    refine e_getr (j := 9) 21 fl_11_200 dX11_over_18 at_1 rfl rfl tp_1_9 rfl ?_
    refine e_iload_n (i := 1) 22 dX11_over_21 rfl rfl rfl ?_
    refine e_aald 23 dX11_over_22 ar_18 (by decide) (by omega) (by omega) (tp_pledge (by omega) (by omega)) rfl ?_
    refine e_astore_n (i := 2) (lsn := [(2, _), (0, _), (1, _)]) 24 dX11_over_23 rfl (by decide) rfl rfl ?_
    refine e_aload_n (i := 2) 25 dX11_over_24 rfl rfl rfl ?_
    refine e_geti (j := 6) 28 fl_11_247 dX11_over_25 (at_pledge (by omega) (by omega)) (by decide) rfl rfl (fun r25 => ?_)
    refine e_iconst 29 dX11_over_28 rfl ?_
    refine e_icmp_ne 32 49 dX11_over_29 (by omega) (by decide) (by decide) rfl (fun b29 => ?_) (fun b29 => ?_)
    · skip
      refine e_bipush 51 dX11_over_49 (by decide) rfl ?_
      refine e_iret dX11_over_51 ?_
      refine jCt_of mt_yX12_over (Nat.le_of_ble_eq_true rfl) (fun X2 => ?_)
      refine e_aload_n (i := 0) 1 dX12_over_0 rfl rfl rfl ?_
      refine e_iconst 2 dX12_over_1 rfl ?_
      refine e_put0 (j := 0) 5 fl_12_1 dX12_over_2 at_928 rfl rfl rfl (by decide) hI.1 rfl ?_
      refine e_aload_n (i := 0) 6 dX12_over_5 rfl rfl rfl ?_
      refine e_iload_n (i := 1) 7 dX12_over_6 rfl rfl rfl ?_
      refine e_callV 10 mt_yX12_isPledge mv_yX12_isPledge wd_1579 (by decide) dX12_over_7 at_928 jc_12 rfl rfl rfl (Nat.le_of_ble_eq_true rfl) (jroom (by decide)) rfl (m_isPledge (by omega) (fun w7 => ?_) (fun w7 => ?_))
      · dsimp only [jpush]
        first
         | (exfalso; omega)
         | (skip
            refine e_if_ne 13 16 dX12_over_10 (by decide) (by decide) rfl (fun _ => ?_) (fun h => absurd h (by decide))
            refine e_aload_n (i := 0) 17 dX12_over_16 rfl rfl rfl ?_
            refine e_getr (j := 1) 20 fl_12_13 dX12_over_17 at_928 rfl rfl tp_928_1 rfl ?_
            refine e_sipush 23 dX12_over_20 (by decide) rfl ?_
            refine e_iload_n (i := 1) 24 dX12_over_23 rfl rfl rfl ?_
            refine e_iadd 25 dX12_over_24 rfl ?_
            refine e_iald 26 dX12_over_25 ar_929 (by omega) (by omega) rfl (fun r25 => ?_)
            refine e_iconst 27 dX12_over_26 rfl ?_
            refine e_icmp_ne 30 54 dX12_over_27 (by omega) (by decide) (by decide) rfl (fun b27 => ?_) (fun b27 => ?_)
            · first
               | (exfalso; omega)
               | (skip
                  refine e_bipush 56 dX12_over_54 (by decide) rfl ?_
                  refine e_iret dX12_over_56 ?_
                  first
                    | (exact ⟨by omega, hI⟩)
                    | (exfalso; omega))
            · first
               | (exfalso; omega)
               | (skip
                  refine e_aload_n (i := 0) 31 dX12_over_30 rfl rfl rfl ?_
                  refine e_getr (j := 1) 34 fl_12_13 dX12_over_31 at_928 rfl rfl tp_928_1 rfl ?_
                  refine e_sipush 37 dX12_over_34 (by decide) rfl ?_
                  refine e_iald 38 dX12_over_37 ar_929 (by decide) (by decide) rfl (fun r37 => ?_)
                  refine e_aload_n (i := 0) 39 dX12_over_38 rfl rfl rfl ?_
                  refine e_getr (j := 1) 42 fl_12_13 dX12_over_39 at_928 rfl rfl tp_928_1 rfl ?_
                  refine e_sipush 45 dX12_over_42 (by decide) rfl ?_
                  refine e_iload_n (i := 1) 46 dX12_over_45 rfl rfl rfl ?_
                  refine e_iadd 47 dX12_over_46 rfl ?_
                  refine e_iald 48 dX12_over_47 ar_929 (by omega) (by omega) rfl (fun r47 => ?_)
                  refine e_isub 49 dX12_over_48 rfl ?_
                  refine e_bipush 51 dX12_over_49 (by decide) rfl ?_
                  refine e_icmp_lt 54 57 dX12_over_51 (by omega) (by decide) (by decide) rfl (fun b51 => ?_) (fun b51 => ?_)
                  · first
                     | (exfalso; omega)
                     | (skip
                        refine e_aload_n (i := 0) 58 dX12_over_57 rfl rfl rfl ?_
                        refine e_getr (j := 1) 61 fl_12_13 dX12_over_58 at_928 rfl rfl tp_928_1 rfl ?_
                        refine e_sipush 64 dX12_over_61 (by decide) rfl ?_
                        refine e_iload_n (i := 1) 65 dX12_over_64 rfl rfl rfl ?_
                        refine e_iadd 66 dX12_over_65 rfl ?_
                        refine e_iald 67 dX12_over_66 ar_929 (by omega) (by omega) rfl (fun r66 => ?_)
                        refine e_istore_n (i := 2) (lsn := [(2, _), (0, _), (1, _)]) 68 dX12_over_67 rfl (by decide) rfl rfl ?_
                        refine e_aload_n (i := 0) 69 dX12_over_68 rfl rfl rfl ?_
                        refine e_getr (j := 1) 72 fl_12_13 dX12_over_69 at_928 rfl rfl tp_928_1 rfl ?_
                        refine e_sipush 75 dX12_over_72 (by decide) rfl ?_
                        refine e_iload_n (i := 1) 76 dX12_over_75 rfl rfl rfl ?_
                        refine e_iadd 77 dX12_over_76 rfl ?_
                        refine e_iconst 78 dX12_over_77 rfl ?_
                        refine e_iast 79 dX12_over_78 ar_929 (by omega) (by omega) (by decide) rfl ?_
                        refine e_aload_n (i := 0) 80 dX12_over_79 rfl rfl rfl ?_
                        refine e_getr (j := 1) 83 fl_12_13 dX12_over_80 at_928 rfl rfl tp_928_1 rfl ?_
                        refine e_sipush 86 dX12_over_83 (by decide) rfl ?_
                        refine e_aload_n (i := 0) 87 dX12_over_86 rfl rfl rfl ?_
                        refine e_getr (j := 1) 90 fl_12_13 dX12_over_87 at_928 rfl rfl tp_928_1 rfl ?_
                        refine e_sipush 93 dX12_over_90 (by decide) rfl ?_
                        refine e_iload_n (i := 1) 94 dX12_over_93 rfl rfl rfl ?_
                        refine e_iadd 95 dX12_over_94 rfl ?_
                        refine e_iald 96 dX12_over_95 ar_929 (by omega) (by omega) rfl (fun r95 => ?_)
                        simp (disch := omega) only [jset_k, jset_j, jset_same, true_and, and_true] at r95 ⊢
                        refine e_iadd 97 dX12_over_96 rfl ?_
                        refine e_dup2 98 dX12_over_97 rfl rfl rfl ?_
                        refine e_iald 99 dX12_over_98 ar_929 (by omega) (by omega) rfl (fun r98 => ?_)
                        simp (disch := omega) only [jset_k, jset_j, jset_same, true_and, and_true] at r98 ⊢
                        refine e_iload_n (i := 2) 100 dX12_over_99 rfl rfl rfl ?_
                        refine e_iadd 101 dX12_over_100 rfl ?_
                        refine e_iastw 102 dX12_over_101 ar_929 (by omega) (by omega) rfl ?_
                        refine e_iload_n (i := 2) 103 dX12_over_102 rfl rfl rfl ?_
                        refine e_iret dX12_over_103 ?_
                        first
                          | (exact ⟨by omega, hI⟩)
                          | (exfalso; omega)
                          | (refine ⟨by omega, ?_⟩
                             refine hI.live ?_ ?_ ?_
                             · repeat (first | exact Live.rf | refine Live.c ?_ (by omega) | refine Live.r ?_ (by omega) | refine Live.s ?_ (by omega))
                             · refine ⟨?_, ?_, ?_, ?_, ?_, ?_, ?_, ?_, ?_, ?_, ?_⟩
                               · exact hI.2.1.1.fr (fun i hi => by simp (disch := omega) only [jset_k, jset_j, jset_same, true_and, and_true])
                               · exact hI.2.1.2.1.fr (fun i a b => by simp (disch := omega) only [jset_k, jset_j, jset_same, true_and, and_true])
                               · exact hI.2.1.2.2.1.fr (fun i a b => by simp (disch := omega) only [jset_k, jset_j, jset_same, true_and, and_true])
                               · exact hI.2.1.2.2.2.1.fr (by omega) (fun i a b => by simp (disch := omega) only [jset_k, jset_j, jset_same, true_and, and_true])
                               · exact hI.2.1.2.2.2.2.1.fr (by omega) (fun i a b => by simp (disch := omega) only [jset_k, jset_j, jset_same, true_and, and_true]) (fun i a b => by simp (disch := omega) only [jset_k, jset_j, jset_same, true_and, and_true])
                               · exact hI.2.1.2.2.2.2.2.1.fr (by omega) (fun i a b => by simp (disch := omega) only [jset_k, jset_j, jset_same, true_and, and_true]) (fun i a b => by simp (disch := omega) only [jset_k, jset_j, jset_same, true_and, and_true]) (by simp (disch := omega) only [jset_k, jset_j, jset_same, true_and, and_true]; omega)
                               · exact hI.2.1.2.2.2.2.2.2.1.fr (by omega) (by simp (disch := omega) only [jset_k, jset_j, jset_same, true_and, and_true]) (fun i a b => by simp (disch := omega) only [jset_k, jset_j, jset_same, true_and, and_true])
                               · exact hI.2.1.2.2.2.2.2.2.2.1.fr (by omega) (fun i a b => by simp (disch := omega) only [jset_k, jset_j, jset_same, true_and, and_true]) (fun i a b => by simp (disch := omega) only [jset_k, jset_j, jset_same, true_and, and_true]) (by simp (disch := omega) only [jset_k, jset_j, jset_same, true_and, and_true]; omega)
                               · exact hI.2.1.2.2.2.2.2.2.2.2.1.fr (by omega) (fun i a b => by simp (disch := omega) only [jset_k, jset_j, jset_same, true_and, and_true])
                               · exact hI.2.1.2.2.2.2.2.2.2.2.2.1.fr (fun i a b => by simp (disch := omega) only [jset_k, jset_j, jset_same, true_and, and_true])
                               · exact hI.2.1.2.2.2.2.2.2.2.2.2.2.fr (fun i a b => by simp (disch := omega) only [jset_k, jset_j, jset_same, true_and, and_true])
                             · refine ⟨?_, ?_, ?_, ?_, ?_, ?_, ?_, ?_, ?_, ?_, ?_, ?_⟩
                               · exact hI.2.2.1.1.fr (fun j => by show _ = M (1 + 0) j; unfold cv; simp (disch := omega) only [jset_k, jset_j, jset_same, true_and, and_true]) (fun i hi => by simp (disch := omega) only [jset_k, jset_j, jset_same, true_and, and_true])
                               · exact hI.2.2.1.2.1.fr hI.2.1.2.1 (by omega) (fun k j a b => by show _ = M (1 + k) j; unfold cv; simp (disch := omega) only [jset_k, jset_j, jset_same, true_and, and_true]) (fun i a b => by simp (disch := omega) only [jset_k, jset_j, jset_same, true_and, and_true])
                               · exact hI.2.2.1.2.2.1.fr hI.2.1.2.2.1 (by omega) (fun k j a b => by show _ = M (1 + k) j; unfold cv; simp (disch := omega) only [jset_k, jset_j, jset_same, true_and, and_true]) (fun i a b => by simp (disch := omega) only [jset_k, jset_j, jset_same, true_and, and_true])
                               · exact hI.2.2.1.2.2.2.1.fr (by omega) (fun k j a b => by show _ = M (1 + k) j; unfold cv; simp (disch := omega) only [jset_k, jset_j, jset_same, true_and, and_true]) (fun i a b => by simp (disch := omega) only [jset_k, jset_j, jset_same, true_and, and_true])
                               · intro q h0 h1
                                 simp (disch := omega) only [jset_k, jset_j, jset_same, true_and, and_true] at h1
                                 simp only [cv1, Int.reduceAdd]
                                 have h := (hC.pers h0 h1).1
                                 by_cases e : q = M 929 (770 + pledge)
                                 · have e2 : M (84 + pledge) 1 = q := by omega
                                   have e3 : M (84 + pledge) 10 = M 929 (1250 + pledge) := by omega
                                   rw [e2, ← e]
                                   simp (disch := omega) only [jset_k, jset_j, jset_same, true_and, and_true]
                                   first | omega | exact ⟨by omega, by omega, by omega, congrArg w32 (by omega), by omega⟩
                                 · simp (disch := omega) only [jset_k, jset_j, jset_same, true_and, and_true]
                                   exact h
                               · intro q h0 h1
                                 simp (disch := omega) only [jset_k, jset_j, jset_same, true_and, and_true] at h1
                                 simp only [cv1, Int.reduceAdd]
                                 have h := hC.pl h0 h1
                                 by_cases e : q = pledge
                                 · subst e
                                   simp (disch := omega) only [jset_k, jset_j, jset_same, true_and, and_true]
                                   first | omega | simp | exact h
                                 · simp (disch := omega) only [jset_k, jset_j, jset_same, true_and, and_true]
                                   exact h
                               · exact hI.2.2.1.2.2.2.2.2.2.1.fr (by omega) (fun k j a b => by show _ = M (1 + k) j; unfold cv; simp (disch := omega) only [jset_k, jset_j, jset_same, true_and, and_true]) (fun i a b => by simp (disch := omega) only [jset_k, jset_j, jset_same, true_and, and_true]) (fun i a b => by simp (disch := omega) only [jset_k, jset_j, jset_same, true_and, and_true])
                               · exact hI.2.2.1.2.2.2.2.2.2.2.1.fr (by omega) (fun k j a b => by show _ = M (1 + k) j; unfold cv; simp (disch := omega) only [jset_k, jset_j, jset_same, true_and, and_true]) (fun i a b => by simp (disch := omega) only [jset_k, jset_j, jset_same, true_and, and_true])
                               · exact hI.2.2.1.2.2.2.2.2.2.2.2.1.fr (fun k j a b => by show _ = M (1 + k) j; unfold cv; simp (disch := omega) only [jset_k, jset_j, jset_same, true_and, and_true]) (fun i a b => by simp (disch := omega) only [jset_k, jset_j, jset_same, true_and, and_true])
                               · exact hI.2.2.1.2.2.2.2.2.2.2.2.2.1.fr (fun k j a b => by show _ = M (1 + k) j; unfold cv; simp (disch := omega) only [jset_k, jset_j, jset_same, true_and, and_true]) (fun i a b => by simp (disch := omega) only [jset_k, jset_j, jset_same, true_and, and_true])
                               · exact hI.2.2.1.2.2.2.2.2.2.2.2.2.2.1.fr (by omega) (fun k j a b => by show _ = M (1 + k) j; unfold cv; simp (disch := omega) only [jset_k, jset_j, jset_same, true_and, and_true]) (fun i a b => by simp (disch := omega) only [jset_k, jset_j, jset_same, true_and, and_true])
                               · exact hI.2.2.1.2.2.2.2.2.2.2.2.2.2.2.fr hI.2.1.2.2.2.2.2.2.2.2.2.2 (fun k j a b => by show _ = M (1 + k) j; unfold cv; simp (disch := omega) only [jset_k, jset_j, jset_same, true_and, and_true]) (fun i a b => by simp (disch := omega) only [jset_k, jset_j, jset_same, true_and, and_true])))
                  · first
                     | (exfalso; omega)
                     | (skip
                        refine e_bipush 56 dX12_over_54 (by decide) rfl ?_
                        refine e_iret dX12_over_56 ?_
                        first
                          | (exact ⟨by omega, hI⟩)
                          | (exfalso; omega))))
      · dsimp only [jpush]
        first
         | (exfalso; omega)
         | (skip
            refine e_if_ne 13 16 dX12_over_10 (by decide) (by decide) rfl (fun h => absurd h (by decide)) (fun _ => ?_)
            refine e_bipush 15 dX12_over_13 (by decide) rfl ?_
            refine e_iret dX12_over_15 ?_
            first
              | (exact ⟨by omega, hI⟩)
              | (exfalso; omega))
    · skip
      refine e_aload_n (i := 0) 33 dX11_over_32 rfl rfl rfl ?_
      refine e_getr (j := 0) 36 fl_11_10 dX11_over_33 at_0 rfl rfl tp_0_0 rfl ?_
      refine e_geti (j := 4) 39 fl_11_174 dX11_over_36 at_1 (by decide) rfl rfl (fun r36 => ?_)
      refine e_aload_n (i := 2) 40 dX11_over_39 rfl rfl rfl ?_
      refine e_geti (j := 9) 43 fl_11_288 dX11_over_40 (at_pledge (by omega) (by omega)) (by decide) rfl rfl (fun r40 => ?_)
      refine e_isub 44 dX11_over_43 rfl ?_
      refine e_bipush 46 dX11_over_44 (by decide) rfl ?_
      refine e_icmp_lt 49 52 dX11_over_46 (by omega) (by decide) (by decide) rfl (fun b46 => ?_) (fun b46 => ?_)
      · skip
        refine e_aload_n (i := 2) 53 dX11_over_52 rfl rfl rfl ?_
        refine e_geti (j := 10) 56 fl_11_285 dX11_over_53 (at_pledge (by omega) (by omega)) (by decide) rfl rfl (fun r53 => ?_)
        refine e_istore_n (i := 3) (lsn := [(3, _), (2, _), (0, _), (1, _)]) 57 dX11_over_56 rfl (by decide) rfl rfl ?_
        refine e_aload_n (i := 2) 58 dX11_over_57 rfl rfl rfl ?_
        refine e_iconst 59 dX11_over_58 rfl ?_
        refine e_puti (j := 10) 62 fl_11_285 dX11_over_59 (at_pledge (by omega) (by omega)) rfl rfl rfl (by decide) rfl ?_
        refine e_aload_n (i := 0) 63 dX11_over_62 rfl rfl rfl ?_
        refine e_getr (j := 0) 66 fl_11_10 dX11_over_63 at_0 rfl rfl tp_0_0 rfl ?_
        refine e_getr (j := 7) 69 fl_11_149 dX11_over_66 at_1 rfl rfl tp_1_7 rfl ?_
        refine e_aload_n (i := 2) 70 dX11_over_69 rfl rfl rfl ?_
        refine e_geti (j := 1) 73 fl_11_250 dX11_over_70 (at_pledge (by omega) (by omega)) (by decide) rfl rfl (fun r70 => ?_)
        simp (disch := omega) only [jset_k, jset_j, jset_same, true_and, and_true] at r70 ⊢
        refine e_aald 74 dX11_over_73 ar_17 (by decide) (by omega) (by omega) (tp_person (by omega) (by omega)) rfl ?_
        refine e_dup 75 dX11_over_74 rfl rfl ?_
        refine e_geti (j := 3) 78 fl_11_164 dX11_over_75 (at_person (by omega) (by omega)) (by decide) rfl rfl (fun r75 => ?_)
        simp (disch := omega) only [jset_k, jset_j, jset_same, true_and, and_true] at r75 ⊢
        refine e_iload_n (i := 3) 79 dX11_over_78 rfl rfl rfl ?_
        refine e_iadd 80 dX11_over_79 rfl ?_
        refine e_putw (j := 3) 83 fl_11_164 dX11_over_80 (at_person (by omega) (by omega)) rfl rfl rfl rfl ?_
        refine e_iload_n (i := 3) 84 dX11_over_83 rfl rfl rfl ?_
        refine e_iret dX11_over_84 ?_
        refine jCt_of mt_yX12_over (Nat.le_of_ble_eq_true rfl) (fun X2 => ?_)
        refine e_aload_n (i := 0) 1 dX12_over_0 rfl rfl rfl ?_
        refine e_iconst 2 dX12_over_1 rfl ?_
        refine e_put0 (j := 0) 5 fl_12_1 dX12_over_2 at_928 rfl rfl rfl (by decide) (by simp (disch := omega) only [jset_k, jset_j, jset_same, true_and, and_true]; exact hI.1) rfl ?_
        refine e_aload_n (i := 0) 6 dX12_over_5 rfl rfl rfl ?_
        refine e_iload_n (i := 1) 7 dX12_over_6 rfl rfl rfl ?_
        refine e_callV 10 mt_yX12_isPledge mv_yX12_isPledge wd_1579 (by decide) dX12_over_7 at_928 jc_12 rfl rfl rfl (Nat.le_of_ble_eq_true rfl) (jroom (by decide)) rfl (m_isPledge (by omega) (fun w7 => ?_) (fun w7 => ?_))
        · dsimp only [jpush]
          (try simp (disch := omega) only [jset_k, jset_j, jset_same, true_and, and_true] at w7)
          first
           | (exfalso; omega)
           | (skip
              refine e_if_ne 13 16 dX12_over_10 (by decide) (by decide) rfl (fun _ => ?_) (fun h => absurd h (by decide))
              refine e_aload_n (i := 0) 17 dX12_over_16 rfl rfl rfl ?_
              refine e_getr (j := 1) 20 fl_12_13 dX12_over_17 at_928 rfl rfl tp_928_1 rfl ?_
              refine e_sipush 23 dX12_over_20 (by decide) rfl ?_
              refine e_iload_n (i := 1) 24 dX12_over_23 rfl rfl rfl ?_
              refine e_iadd 25 dX12_over_24 rfl ?_
              refine e_iald 26 dX12_over_25 ar_929 (by omega) (by omega) rfl (fun r25 => ?_)
              simp (disch := omega) only [jset_k, jset_j, jset_same, true_and, and_true] at r25 ⊢
              refine e_iconst 27 dX12_over_26 rfl ?_
              refine e_icmp_ne 30 54 dX12_over_27 (by omega) (by decide) (by decide) rfl (fun b27 => ?_) (fun b27 => ?_)
              · first
                 | (exfalso; omega)
                 | (skip
                    refine e_bipush 56 dX12_over_54 (by decide) rfl ?_
                    refine e_iret dX12_over_56 ?_
                    first
                      | (exact ⟨by omega, hI⟩)
                      | (exfalso; omega)
                      | (refine ⟨by omega, ?_⟩
                         refine hI.live ?_ ?_ ?_
                         · repeat (first | exact Live.rf | refine Live.c ?_ (by omega) | refine Live.r ?_ (by omega) | refine Live.s ?_ (by omega))
                         · refine ⟨?_, ?_, ?_, ?_, ?_, ?_, ?_, ?_, ?_, ?_, ?_⟩
                           · exact hI.2.1.1.fr (fun i hi => by simp (disch := omega) only [jset_k, jset_j, jset_same, true_and, and_true])
                           · exact hI.2.1.2.1.fr (fun i a b => by simp (disch := omega) only [jset_k, jset_j, jset_same, true_and, and_true])
                           · exact hI.2.1.2.2.1.fr (fun i a b => by simp (disch := omega) only [jset_k, jset_j, jset_same, true_and, and_true])
                           · exact hI.2.1.2.2.2.1.fr (by omega) (fun i a b => by simp (disch := omega) only [jset_k, jset_j, jset_same, true_and, and_true])
                           · exact hI.2.1.2.2.2.2.1.fr (by omega) (fun i a b => by simp (disch := omega) only [jset_k, jset_j, jset_same, true_and, and_true]) (fun i a b => by simp (disch := omega) only [jset_k, jset_j, jset_same, true_and, and_true])
                           · exact hI.2.1.2.2.2.2.2.1.fr (by omega) (fun i a b => by simp (disch := omega) only [jset_k, jset_j, jset_same, true_and, and_true]) (fun i a b => by simp (disch := omega) only [jset_k, jset_j, jset_same, true_and, and_true]) (by simp (disch := omega) only [jset_k, jset_j, jset_same, true_and, and_true]; omega)
                           · exact hI.2.1.2.2.2.2.2.2.1.fr (by omega) (by simp (disch := omega) only [jset_k, jset_j, jset_same, true_and, and_true]) (fun i a b => by simp (disch := omega) only [jset_k, jset_j, jset_same, true_and, and_true])
                           · exact hI.2.1.2.2.2.2.2.2.2.1.fr (by omega) (fun i a b => by simp (disch := omega) only [jset_k, jset_j, jset_same, true_and, and_true]) (fun i a b => by simp (disch := omega) only [jset_k, jset_j, jset_same, true_and, and_true]) (by simp (disch := omega) only [jset_k, jset_j, jset_same, true_and, and_true]; omega)
                           · exact hI.2.1.2.2.2.2.2.2.2.2.1.fr (by omega) (fun i a b => by simp (disch := omega) only [jset_k, jset_j, jset_same, true_and, and_true])
                           · exact hI.2.1.2.2.2.2.2.2.2.2.2.1.fr (fun i a b => by simp (disch := omega) only [jset_k, jset_j, jset_same, true_and, and_true])
                           · exact hI.2.1.2.2.2.2.2.2.2.2.2.2.fr (fun i a b => by simp (disch := omega) only [jset_k, jset_j, jset_same, true_and, and_true])
                         · refine ⟨?_, ?_, ?_, ?_, ?_, ?_, ?_, ?_, ?_, ?_, ?_, ?_⟩
                           · exact hI.2.2.1.1.fr (fun j => by show _ = M (1 + 0) j; unfold cv; simp (disch := omega) only [jset_k, jset_j, jset_same, true_and, and_true]) (fun i hi => by simp (disch := omega) only [jset_k, jset_j, jset_same, true_and, and_true])
                           · exact hI.2.2.1.2.1.fr hI.2.1.2.1 (by omega) (fun k j a b => by show _ = M (1 + k) j; unfold cv; simp (disch := omega) only [jset_k, jset_j, jset_same, true_and, and_true]) (fun i a b => by simp (disch := omega) only [jset_k, jset_j, jset_same, true_and, and_true])
                           · exact hI.2.2.1.2.2.1.fr hI.2.1.2.2.1 (by omega) (fun k j a b => by show _ = M (1 + k) j; unfold cv; simp (disch := omega) only [jset_k, jset_j, jset_same, true_and, and_true]) (fun i a b => by simp (disch := omega) only [jset_k, jset_j, jset_same, true_and, and_true])
                           · exact hI.2.2.1.2.2.2.1.fr (by omega) (fun k j a b => by show _ = M (1 + k) j; unfold cv; simp (disch := omega) only [jset_k, jset_j, jset_same, true_and, and_true]) (fun i a b => by simp (disch := omega) only [jset_k, jset_j, jset_same, true_and, and_true])
                           · intro q h0 h1
                             simp (disch := omega) only [jset_k, jset_j, jset_same, true_and, and_true] at h1
                             simp only [cv1, Int.reduceAdd]
                             have h := (hC.pers h0 h1).1
                             by_cases e : q = M 929 (770 + pledge)
                             · have e2 : M (84 + pledge) 1 = q := by omega
                               have e3 : M (84 + pledge) 10 = M 929 (1250 + pledge) := by omega
                               rw [e2, ← e]
                               simp (disch := omega) only [jset_k, jset_j, jset_same, true_and, and_true]
                               first | omega | exact ⟨by omega, by omega, by omega, congrArg w32 (by omega), by omega⟩
                             · simp (disch := omega) only [jset_k, jset_j, jset_same, true_and, and_true]
                               exact h
                           · intro q h0 h1
                             simp (disch := omega) only [jset_k, jset_j, jset_same, true_and, and_true] at h1
                             simp only [cv1, Int.reduceAdd]
                             have h := hC.pl h0 h1
                             by_cases e : q = pledge
                             · subst e
                               simp (disch := omega) only [jset_k, jset_j, jset_same, true_and, and_true]
                               first | omega | simp | exact h
                             · simp (disch := omega) only [jset_k, jset_j, jset_same, true_and, and_true]
                               exact h
                           · exact hI.2.2.1.2.2.2.2.2.2.1.fr (by omega) (fun k j a b => by show _ = M (1 + k) j; unfold cv; simp (disch := omega) only [jset_k, jset_j, jset_same, true_and, and_true]) (fun i a b => by simp (disch := omega) only [jset_k, jset_j, jset_same, true_and, and_true]) (fun i a b => by simp (disch := omega) only [jset_k, jset_j, jset_same, true_and, and_true])
                           · exact hI.2.2.1.2.2.2.2.2.2.2.1.fr (by omega) (fun k j a b => by show _ = M (1 + k) j; unfold cv; simp (disch := omega) only [jset_k, jset_j, jset_same, true_and, and_true]) (fun i a b => by simp (disch := omega) only [jset_k, jset_j, jset_same, true_and, and_true])
                           · exact hI.2.2.1.2.2.2.2.2.2.2.2.1.fr (fun k j a b => by show _ = M (1 + k) j; unfold cv; simp (disch := omega) only [jset_k, jset_j, jset_same, true_and, and_true]) (fun i a b => by simp (disch := omega) only [jset_k, jset_j, jset_same, true_and, and_true])
                           · exact hI.2.2.1.2.2.2.2.2.2.2.2.2.1.fr (fun k j a b => by show _ = M (1 + k) j; unfold cv; simp (disch := omega) only [jset_k, jset_j, jset_same, true_and, and_true]) (fun i a b => by simp (disch := omega) only [jset_k, jset_j, jset_same, true_and, and_true])
                           · exact hI.2.2.1.2.2.2.2.2.2.2.2.2.2.1.fr (by omega) (fun k j a b => by show _ = M (1 + k) j; unfold cv; simp (disch := omega) only [jset_k, jset_j, jset_same, true_and, and_true]) (fun i a b => by simp (disch := omega) only [jset_k, jset_j, jset_same, true_and, and_true])
                           · exact hI.2.2.1.2.2.2.2.2.2.2.2.2.2.2.fr hI.2.1.2.2.2.2.2.2.2.2.2.2 (fun k j a b => by show _ = M (1 + k) j; unfold cv; simp (disch := omega) only [jset_k, jset_j, jset_same, true_and, and_true]) (fun i a b => by simp (disch := omega) only [jset_k, jset_j, jset_same, true_and, and_true])))
              · first
                 | (exfalso; omega)
                 | (skip
                    refine e_aload_n (i := 0) 31 dX12_over_30 rfl rfl rfl ?_
                    refine e_getr (j := 1) 34 fl_12_13 dX12_over_31 at_928 rfl rfl tp_928_1 rfl ?_
                    refine e_sipush 37 dX12_over_34 (by decide) rfl ?_
                    refine e_iald 38 dX12_over_37 ar_929 (by decide) (by decide) rfl (fun r37 => ?_)
                    simp (disch := omega) only [jset_k, jset_j, jset_same, true_and, and_true] at r37 ⊢
                    refine e_aload_n (i := 0) 39 dX12_over_38 rfl rfl rfl ?_
                    refine e_getr (j := 1) 42 fl_12_13 dX12_over_39 at_928 rfl rfl tp_928_1 rfl ?_
                    refine e_sipush 45 dX12_over_42 (by decide) rfl ?_
                    refine e_iload_n (i := 1) 46 dX12_over_45 rfl rfl rfl ?_
                    refine e_iadd 47 dX12_over_46 rfl ?_
                    refine e_iald 48 dX12_over_47 ar_929 (by omega) (by omega) rfl (fun r47 => ?_)
                    simp (disch := omega) only [jset_k, jset_j, jset_same, true_and, and_true] at r47 ⊢
                    refine e_isub 49 dX12_over_48 rfl ?_
                    refine e_bipush 51 dX12_over_49 (by decide) rfl ?_
                    refine e_icmp_lt 54 57 dX12_over_51 (by omega) (by decide) (by decide) rfl (fun b51 => ?_) (fun b51 => ?_)
                    · first
                       | (exfalso; omega)
                       | (skip
                          refine e_aload_n (i := 0) 58 dX12_over_57 rfl rfl rfl ?_
                          refine e_getr (j := 1) 61 fl_12_13 dX12_over_58 at_928 rfl rfl tp_928_1 rfl ?_
                          refine e_sipush 64 dX12_over_61 (by decide) rfl ?_
                          refine e_iload_n (i := 1) 65 dX12_over_64 rfl rfl rfl ?_
                          refine e_iadd 66 dX12_over_65 rfl ?_
                          refine e_iald 67 dX12_over_66 ar_929 (by omega) (by omega) rfl (fun r66 => ?_)
                          simp (disch := omega) only [jset_k, jset_j, jset_same, true_and, and_true] at r66 ⊢
                          refine e_istore_n (i := 2) (lsn := [(2, _), (0, _), (1, _)]) 68 dX12_over_67 rfl (by decide) rfl rfl ?_
                          refine e_aload_n (i := 0) 69 dX12_over_68 rfl rfl rfl ?_
                          refine e_getr (j := 1) 72 fl_12_13 dX12_over_69 at_928 rfl rfl tp_928_1 rfl ?_
                          refine e_sipush 75 dX12_over_72 (by decide) rfl ?_
                          refine e_iload_n (i := 1) 76 dX12_over_75 rfl rfl rfl ?_
                          refine e_iadd 77 dX12_over_76 rfl ?_
                          refine e_iconst 78 dX12_over_77 rfl ?_
                          refine e_iast 79 dX12_over_78 ar_929 (by omega) (by omega) (by decide) rfl ?_
                          refine e_aload_n (i := 0) 80 dX12_over_79 rfl rfl rfl ?_
                          refine e_getr (j := 1) 83 fl_12_13 dX12_over_80 at_928 rfl rfl tp_928_1 rfl ?_
                          refine e_sipush 86 dX12_over_83 (by decide) rfl ?_
                          refine e_aload_n (i := 0) 87 dX12_over_86 rfl rfl rfl ?_
                          refine e_getr (j := 1) 90 fl_12_13 dX12_over_87 at_928 rfl rfl tp_928_1 rfl ?_
                          refine e_sipush 93 dX12_over_90 (by decide) rfl ?_
                          refine e_iload_n (i := 1) 94 dX12_over_93 rfl rfl rfl ?_
                          refine e_iadd 95 dX12_over_94 rfl ?_
                          refine e_iald 96 dX12_over_95 ar_929 (by omega) (by omega) rfl (fun r95 => ?_)
                          simp (disch := omega) only [jset_k, jset_j, jset_same, true_and, and_true] at r95 ⊢
                          refine e_iadd 97 dX12_over_96 rfl ?_
                          refine e_dup2 98 dX12_over_97 rfl rfl rfl ?_
                          refine e_iald 99 dX12_over_98 ar_929 (by omega) (by omega) rfl (fun r98 => ?_)
                          simp (disch := omega) only [jset_k, jset_j, jset_same, true_and, and_true] at r98 ⊢
                          refine e_iload_n (i := 2) 100 dX12_over_99 rfl rfl rfl ?_
                          refine e_iadd 101 dX12_over_100 rfl ?_
                          refine e_iastw 102 dX12_over_101 ar_929 (by omega) (by omega) rfl ?_
                          refine e_iload_n (i := 2) 103 dX12_over_102 rfl rfl rfl ?_
                          refine e_iret dX12_over_103 ?_
                          first
                            | (exact ⟨by omega, hI⟩)
                            | (exfalso; omega)
                            | (refine ⟨by omega, ?_⟩
                               refine hI.live ?_ ?_ ?_
                               · repeat (first | exact Live.rf | refine Live.c ?_ (by omega) | refine Live.r ?_ (by omega) | refine Live.s ?_ (by omega))
                               · refine ⟨?_, ?_, ?_, ?_, ?_, ?_, ?_, ?_, ?_, ?_, ?_⟩
                                 · exact hI.2.1.1.fr (fun i hi => by simp (disch := omega) only [jset_k, jset_j, jset_same, true_and, and_true])
                                 · exact hI.2.1.2.1.fr (fun i a b => by simp (disch := omega) only [jset_k, jset_j, jset_same, true_and, and_true])
                                 · exact hI.2.1.2.2.1.fr (fun i a b => by simp (disch := omega) only [jset_k, jset_j, jset_same, true_and, and_true])
                                 · exact hI.2.1.2.2.2.1.fr (by omega) (fun i a b => by simp (disch := omega) only [jset_k, jset_j, jset_same, true_and, and_true])
                                 · exact hI.2.1.2.2.2.2.1.fr (by omega) (fun i a b => by simp (disch := omega) only [jset_k, jset_j, jset_same, true_and, and_true]) (fun i a b => by simp (disch := omega) only [jset_k, jset_j, jset_same, true_and, and_true])
                                 · exact hI.2.1.2.2.2.2.2.1.fr (by omega) (fun i a b => by simp (disch := omega) only [jset_k, jset_j, jset_same, true_and, and_true]) (fun i a b => by simp (disch := omega) only [jset_k, jset_j, jset_same, true_and, and_true]) (by simp (disch := omega) only [jset_k, jset_j, jset_same, true_and, and_true]; omega)
                                 · exact hI.2.1.2.2.2.2.2.2.1.fr (by omega) (by simp (disch := omega) only [jset_k, jset_j, jset_same, true_and, and_true]) (fun i a b => by simp (disch := omega) only [jset_k, jset_j, jset_same, true_and, and_true])
                                 · exact hI.2.1.2.2.2.2.2.2.2.1.fr (by omega) (fun i a b => by simp (disch := omega) only [jset_k, jset_j, jset_same, true_and, and_true]) (fun i a b => by simp (disch := omega) only [jset_k, jset_j, jset_same, true_and, and_true]) (by simp (disch := omega) only [jset_k, jset_j, jset_same, true_and, and_true]; omega)
                                 · exact hI.2.1.2.2.2.2.2.2.2.2.1.fr (by omega) (fun i a b => by simp (disch := omega) only [jset_k, jset_j, jset_same, true_and, and_true])
                                 · exact hI.2.1.2.2.2.2.2.2.2.2.2.1.fr (fun i a b => by simp (disch := omega) only [jset_k, jset_j, jset_same, true_and, and_true])
                                 · exact hI.2.1.2.2.2.2.2.2.2.2.2.2.fr (fun i a b => by simp (disch := omega) only [jset_k, jset_j, jset_same, true_and, and_true])
                               · refine ⟨?_, ?_, ?_, ?_, ?_, ?_, ?_, ?_, ?_, ?_, ?_, ?_⟩
                                 · exact hI.2.2.1.1.fr (fun j => by show _ = M (1 + 0) j; unfold cv; simp (disch := omega) only [jset_k, jset_j, jset_same, true_and, and_true]) (fun i hi => by simp (disch := omega) only [jset_k, jset_j, jset_same, true_and, and_true])
                                 · exact hI.2.2.1.2.1.fr hI.2.1.2.1 (by omega) (fun k j a b => by show _ = M (1 + k) j; unfold cv; simp (disch := omega) only [jset_k, jset_j, jset_same, true_and, and_true]) (fun i a b => by simp (disch := omega) only [jset_k, jset_j, jset_same, true_and, and_true])
                                 · exact hI.2.2.1.2.2.1.fr hI.2.1.2.2.1 (by omega) (fun k j a b => by show _ = M (1 + k) j; unfold cv; simp (disch := omega) only [jset_k, jset_j, jset_same, true_and, and_true]) (fun i a b => by simp (disch := omega) only [jset_k, jset_j, jset_same, true_and, and_true])
                                 · exact hI.2.2.1.2.2.2.1.fr (by omega) (fun k j a b => by show _ = M (1 + k) j; unfold cv; simp (disch := omega) only [jset_k, jset_j, jset_same, true_and, and_true]) (fun i a b => by simp (disch := omega) only [jset_k, jset_j, jset_same, true_and, and_true])
                                 · intro q h0 h1
                                   simp (disch := omega) only [jset_k, jset_j, jset_same, true_and, and_true] at h1
                                   simp only [cv1, Int.reduceAdd]
                                   have h := (hC.pers h0 h1).1
                                   by_cases e : q = M 929 (770 + pledge)
                                   · have e2 : M (84 + pledge) 1 = q := by omega
                                     have e3 : M (84 + pledge) 10 = M 929 (1250 + pledge) := by omega
                                     rw [e2, ← e]
                                     simp (disch := omega) only [jset_k, jset_j, jset_same, true_and, and_true]
                                     first | omega | exact ⟨by omega, by omega, by omega, congrArg w32 (by omega), by omega⟩
                                   · simp (disch := omega) only [jset_k, jset_j, jset_same, true_and, and_true]
                                     exact h
                                 · intro q h0 h1
                                   simp (disch := omega) only [jset_k, jset_j, jset_same, true_and, and_true] at h1
                                   simp only [cv1, Int.reduceAdd]
                                   have h := hC.pl h0 h1
                                   by_cases e : q = pledge
                                   · subst e
                                     simp (disch := omega) only [jset_k, jset_j, jset_same, true_and, and_true]
                                     first | omega | simp | exact h
                                   · simp (disch := omega) only [jset_k, jset_j, jset_same, true_and, and_true]
                                     exact h
                                 · exact hI.2.2.1.2.2.2.2.2.2.1.fr (by omega) (fun k j a b => by show _ = M (1 + k) j; unfold cv; simp (disch := omega) only [jset_k, jset_j, jset_same, true_and, and_true]) (fun i a b => by simp (disch := omega) only [jset_k, jset_j, jset_same, true_and, and_true]) (fun i a b => by simp (disch := omega) only [jset_k, jset_j, jset_same, true_and, and_true])
                                 · exact hI.2.2.1.2.2.2.2.2.2.2.1.fr (by omega) (fun k j a b => by show _ = M (1 + k) j; unfold cv; simp (disch := omega) only [jset_k, jset_j, jset_same, true_and, and_true]) (fun i a b => by simp (disch := omega) only [jset_k, jset_j, jset_same, true_and, and_true])
                                 · exact hI.2.2.1.2.2.2.2.2.2.2.2.1.fr (fun k j a b => by show _ = M (1 + k) j; unfold cv; simp (disch := omega) only [jset_k, jset_j, jset_same, true_and, and_true]) (fun i a b => by simp (disch := omega) only [jset_k, jset_j, jset_same, true_and, and_true])
                                 · exact hI.2.2.1.2.2.2.2.2.2.2.2.2.1.fr (fun k j a b => by show _ = M (1 + k) j; unfold cv; simp (disch := omega) only [jset_k, jset_j, jset_same, true_and, and_true]) (fun i a b => by simp (disch := omega) only [jset_k, jset_j, jset_same, true_and, and_true])
                                 · exact hI.2.2.1.2.2.2.2.2.2.2.2.2.2.1.fr (by omega) (fun k j a b => by show _ = M (1 + k) j; unfold cv; simp (disch := omega) only [jset_k, jset_j, jset_same, true_and, and_true]) (fun i a b => by simp (disch := omega) only [jset_k, jset_j, jset_same, true_and, and_true])
                                 · exact hI.2.2.1.2.2.2.2.2.2.2.2.2.2.2.fr hI.2.1.2.2.2.2.2.2.2.2.2.2 (fun k j a b => by show _ = M (1 + k) j; unfold cv; simp (disch := omega) only [jset_k, jset_j, jset_same, true_and, and_true]) (fun i a b => by simp (disch := omega) only [jset_k, jset_j, jset_same, true_and, and_true])))
                    · first
                       | (exfalso; omega)
                       | (skip
                          refine e_bipush 56 dX12_over_54 (by decide) rfl ?_
                          refine e_iret dX12_over_56 ?_
                          first
                            | (exact ⟨by omega, hI⟩)
                            | (exfalso; omega)
                            | (refine ⟨by omega, ?_⟩
                               refine hI.live ?_ ?_ ?_
                               · repeat (first | exact Live.rf | refine Live.c ?_ (by omega) | refine Live.r ?_ (by omega) | refine Live.s ?_ (by omega))
                               · refine ⟨?_, ?_, ?_, ?_, ?_, ?_, ?_, ?_, ?_, ?_, ?_⟩
                                 · exact hI.2.1.1.fr (fun i hi => by simp (disch := omega) only [jset_k, jset_j, jset_same, true_and, and_true])
                                 · exact hI.2.1.2.1.fr (fun i a b => by simp (disch := omega) only [jset_k, jset_j, jset_same, true_and, and_true])
                                 · exact hI.2.1.2.2.1.fr (fun i a b => by simp (disch := omega) only [jset_k, jset_j, jset_same, true_and, and_true])
                                 · exact hI.2.1.2.2.2.1.fr (by omega) (fun i a b => by simp (disch := omega) only [jset_k, jset_j, jset_same, true_and, and_true])
                                 · exact hI.2.1.2.2.2.2.1.fr (by omega) (fun i a b => by simp (disch := omega) only [jset_k, jset_j, jset_same, true_and, and_true]) (fun i a b => by simp (disch := omega) only [jset_k, jset_j, jset_same, true_and, and_true])
                                 · exact hI.2.1.2.2.2.2.2.1.fr (by omega) (fun i a b => by simp (disch := omega) only [jset_k, jset_j, jset_same, true_and, and_true]) (fun i a b => by simp (disch := omega) only [jset_k, jset_j, jset_same, true_and, and_true]) (by simp (disch := omega) only [jset_k, jset_j, jset_same, true_and, and_true]; omega)
                                 · exact hI.2.1.2.2.2.2.2.2.1.fr (by omega) (by simp (disch := omega) only [jset_k, jset_j, jset_same, true_and, and_true]) (fun i a b => by simp (disch := omega) only [jset_k, jset_j, jset_same, true_and, and_true])
                                 · exact hI.2.1.2.2.2.2.2.2.2.1.fr (by omega) (fun i a b => by simp (disch := omega) only [jset_k, jset_j, jset_same, true_and, and_true]) (fun i a b => by simp (disch := omega) only [jset_k, jset_j, jset_same, true_and, and_true]) (by simp (disch := omega) only [jset_k, jset_j, jset_same, true_and, and_true]; omega)
                                 · exact hI.2.1.2.2.2.2.2.2.2.2.1.fr (by omega) (fun i a b => by simp (disch := omega) only [jset_k, jset_j, jset_same, true_and, and_true])
                                 · exact hI.2.1.2.2.2.2.2.2.2.2.2.1.fr (fun i a b => by simp (disch := omega) only [jset_k, jset_j, jset_same, true_and, and_true])
                                 · exact hI.2.1.2.2.2.2.2.2.2.2.2.2.fr (fun i a b => by simp (disch := omega) only [jset_k, jset_j, jset_same, true_and, and_true])
                               · refine ⟨?_, ?_, ?_, ?_, ?_, ?_, ?_, ?_, ?_, ?_, ?_, ?_⟩
                                 · exact hI.2.2.1.1.fr (fun j => by show _ = M (1 + 0) j; unfold cv; simp (disch := omega) only [jset_k, jset_j, jset_same, true_and, and_true]) (fun i hi => by simp (disch := omega) only [jset_k, jset_j, jset_same, true_and, and_true])
                                 · exact hI.2.2.1.2.1.fr hI.2.1.2.1 (by omega) (fun k j a b => by show _ = M (1 + k) j; unfold cv; simp (disch := omega) only [jset_k, jset_j, jset_same, true_and, and_true]) (fun i a b => by simp (disch := omega) only [jset_k, jset_j, jset_same, true_and, and_true])
                                 · exact hI.2.2.1.2.2.1.fr hI.2.1.2.2.1 (by omega) (fun k j a b => by show _ = M (1 + k) j; unfold cv; simp (disch := omega) only [jset_k, jset_j, jset_same, true_and, and_true]) (fun i a b => by simp (disch := omega) only [jset_k, jset_j, jset_same, true_and, and_true])
                                 · exact hI.2.2.1.2.2.2.1.fr (by omega) (fun k j a b => by show _ = M (1 + k) j; unfold cv; simp (disch := omega) only [jset_k, jset_j, jset_same, true_and, and_true]) (fun i a b => by simp (disch := omega) only [jset_k, jset_j, jset_same, true_and, and_true])
                                 · intro q h0 h1
                                   simp (disch := omega) only [jset_k, jset_j, jset_same, true_and, and_true] at h1
                                   simp only [cv1, Int.reduceAdd]
                                   have h := (hC.pers h0 h1).1
                                   by_cases e : q = M 929 (770 + pledge)
                                   · have e2 : M (84 + pledge) 1 = q := by omega
                                     have e3 : M (84 + pledge) 10 = M 929 (1250 + pledge) := by omega
                                     rw [e2, ← e]
                                     simp (disch := omega) only [jset_k, jset_j, jset_same, true_and, and_true]
                                     first | omega | exact ⟨by omega, by omega, by omega, congrArg w32 (by omega), by omega⟩
                                   · simp (disch := omega) only [jset_k, jset_j, jset_same, true_and, and_true]
                                     exact h
                                 · intro q h0 h1
                                   simp (disch := omega) only [jset_k, jset_j, jset_same, true_and, and_true] at h1
                                   simp only [cv1, Int.reduceAdd]
                                   have h := hC.pl h0 h1
                                   by_cases e : q = pledge
                                   · subst e
                                     simp (disch := omega) only [jset_k, jset_j, jset_same, true_and, and_true]
                                     first | omega | simp | exact h
                                   · simp (disch := omega) only [jset_k, jset_j, jset_same, true_and, and_true]
                                     exact h
                                 · exact hI.2.2.1.2.2.2.2.2.2.1.fr (by omega) (fun k j a b => by show _ = M (1 + k) j; unfold cv; simp (disch := omega) only [jset_k, jset_j, jset_same, true_and, and_true]) (fun i a b => by simp (disch := omega) only [jset_k, jset_j, jset_same, true_and, and_true]) (fun i a b => by simp (disch := omega) only [jset_k, jset_j, jset_same, true_and, and_true])
                                 · exact hI.2.2.1.2.2.2.2.2.2.2.1.fr (by omega) (fun k j a b => by show _ = M (1 + k) j; unfold cv; simp (disch := omega) only [jset_k, jset_j, jset_same, true_and, and_true]) (fun i a b => by simp (disch := omega) only [jset_k, jset_j, jset_same, true_and, and_true])
                                 · exact hI.2.2.1.2.2.2.2.2.2.2.2.1.fr (fun k j a b => by show _ = M (1 + k) j; unfold cv; simp (disch := omega) only [jset_k, jset_j, jset_same, true_and, and_true]) (fun i a b => by simp (disch := omega) only [jset_k, jset_j, jset_same, true_and, and_true])
                                 · exact hI.2.2.1.2.2.2.2.2.2.2.2.2.1.fr (fun k j a b => by show _ = M (1 + k) j; unfold cv; simp (disch := omega) only [jset_k, jset_j, jset_same, true_and, and_true]) (fun i a b => by simp (disch := omega) only [jset_k, jset_j, jset_same, true_and, and_true])
                                 · exact hI.2.2.1.2.2.2.2.2.2.2.2.2.2.1.fr (by omega) (fun k j a b => by show _ = M (1 + k) j; unfold cv; simp (disch := omega) only [jset_k, jset_j, jset_same, true_and, and_true]) (fun i a b => by simp (disch := omega) only [jset_k, jset_j, jset_same, true_and, and_true])
                                 · exact hI.2.2.1.2.2.2.2.2.2.2.2.2.2.2.fr hI.2.1.2.2.2.2.2.2.2.2.2.2 (fun k j a b => by show _ = M (1 + k) j; unfold cv; simp (disch := omega) only [jset_k, jset_j, jset_same, true_and, and_true]) (fun i a b => by simp (disch := omega) only [jset_k, jset_j, jset_same, true_and, and_true])))))
        · dsimp only [jpush]
          (try simp (disch := omega) only [jset_k, jset_j, jset_same, true_and, and_true] at w7)
          first
           | (exfalso; omega)
           | (skip
              refine e_if_ne 13 16 dX12_over_10 (by decide) (by decide) rfl (fun h => absurd h (by decide)) (fun _ => ?_)
              refine e_bipush 15 dX12_over_13 (by decide) rfl ?_
              refine e_iret dX12_over_15 ?_
              first
                | (exact ⟨by omega, hI⟩)
                | (exfalso; omega)
                | (refine ⟨by omega, ?_⟩
                   refine hI.live ?_ ?_ ?_
                   · repeat (first | exact Live.rf | refine Live.c ?_ (by omega) | refine Live.r ?_ (by omega) | refine Live.s ?_ (by omega))
                   · refine ⟨?_, ?_, ?_, ?_, ?_, ?_, ?_, ?_, ?_, ?_, ?_⟩
                     · exact hI.2.1.1.fr (fun i hi => by simp (disch := omega) only [jset_k, jset_j, jset_same, true_and, and_true])
                     · exact hI.2.1.2.1.fr (fun i a b => by simp (disch := omega) only [jset_k, jset_j, jset_same, true_and, and_true])
                     · exact hI.2.1.2.2.1.fr (fun i a b => by simp (disch := omega) only [jset_k, jset_j, jset_same, true_and, and_true])
                     · exact hI.2.1.2.2.2.1.fr (by omega) (fun i a b => by simp (disch := omega) only [jset_k, jset_j, jset_same, true_and, and_true])
                     · exact hI.2.1.2.2.2.2.1.fr (by omega) (fun i a b => by simp (disch := omega) only [jset_k, jset_j, jset_same, true_and, and_true]) (fun i a b => by simp (disch := omega) only [jset_k, jset_j, jset_same, true_and, and_true])
                     · exact hI.2.1.2.2.2.2.2.1.fr (by omega) (fun i a b => by simp (disch := omega) only [jset_k, jset_j, jset_same, true_and, and_true]) (fun i a b => by simp (disch := omega) only [jset_k, jset_j, jset_same, true_and, and_true]) (by simp (disch := omega) only [jset_k, jset_j, jset_same, true_and, and_true]; omega)
                     · exact hI.2.1.2.2.2.2.2.2.1.fr (by omega) (by simp (disch := omega) only [jset_k, jset_j, jset_same, true_and, and_true]) (fun i a b => by simp (disch := omega) only [jset_k, jset_j, jset_same, true_and, and_true])
                     · exact hI.2.1.2.2.2.2.2.2.2.1.fr (by omega) (fun i a b => by simp (disch := omega) only [jset_k, jset_j, jset_same, true_and, and_true]) (fun i a b => by simp (disch := omega) only [jset_k, jset_j, jset_same, true_and, and_true]) (by simp (disch := omega) only [jset_k, jset_j, jset_same, true_and, and_true]; omega)
                     · exact hI.2.1.2.2.2.2.2.2.2.2.1.fr (by omega) (fun i a b => by simp (disch := omega) only [jset_k, jset_j, jset_same, true_and, and_true])
                     · exact hI.2.1.2.2.2.2.2.2.2.2.2.1.fr (fun i a b => by simp (disch := omega) only [jset_k, jset_j, jset_same, true_and, and_true])
                     · exact hI.2.1.2.2.2.2.2.2.2.2.2.2.fr (fun i a b => by simp (disch := omega) only [jset_k, jset_j, jset_same, true_and, and_true])
                   · refine ⟨?_, ?_, ?_, ?_, ?_, ?_, ?_, ?_, ?_, ?_, ?_, ?_⟩
                     · exact hI.2.2.1.1.fr (fun j => by show _ = M (1 + 0) j; unfold cv; simp (disch := omega) only [jset_k, jset_j, jset_same, true_and, and_true]) (fun i hi => by simp (disch := omega) only [jset_k, jset_j, jset_same, true_and, and_true])
                     · exact hI.2.2.1.2.1.fr hI.2.1.2.1 (by omega) (fun k j a b => by show _ = M (1 + k) j; unfold cv; simp (disch := omega) only [jset_k, jset_j, jset_same, true_and, and_true]) (fun i a b => by simp (disch := omega) only [jset_k, jset_j, jset_same, true_and, and_true])
                     · exact hI.2.2.1.2.2.1.fr hI.2.1.2.2.1 (by omega) (fun k j a b => by show _ = M (1 + k) j; unfold cv; simp (disch := omega) only [jset_k, jset_j, jset_same, true_and, and_true]) (fun i a b => by simp (disch := omega) only [jset_k, jset_j, jset_same, true_and, and_true])
                     · exact hI.2.2.1.2.2.2.1.fr (by omega) (fun k j a b => by show _ = M (1 + k) j; unfold cv; simp (disch := omega) only [jset_k, jset_j, jset_same, true_and, and_true]) (fun i a b => by simp (disch := omega) only [jset_k, jset_j, jset_same, true_and, and_true])
                     · intro q h0 h1
                       simp (disch := omega) only [jset_k, jset_j, jset_same, true_and, and_true] at h1
                       simp only [cv1, Int.reduceAdd]
                       have h := (hC.pers h0 h1).1
                       by_cases e : q = M 929 (770 + pledge)
                       · have e2 : M (84 + pledge) 1 = q := by omega
                         have e3 : M (84 + pledge) 10 = M 929 (1250 + pledge) := by omega
                         rw [e2, ← e]
                         simp (disch := omega) only [jset_k, jset_j, jset_same, true_and, and_true]
                         first | omega | exact ⟨by omega, by omega, by omega, congrArg w32 (by omega), by omega⟩
                       · simp (disch := omega) only [jset_k, jset_j, jset_same, true_and, and_true]
                         exact h
                     · intro q h0 h1
                       simp (disch := omega) only [jset_k, jset_j, jset_same, true_and, and_true] at h1
                       simp only [cv1, Int.reduceAdd]
                       have h := hC.pl h0 h1
                       by_cases e : q = pledge
                       · subst e
                         simp (disch := omega) only [jset_k, jset_j, jset_same, true_and, and_true]
                         first | omega | simp | exact h
                       · simp (disch := omega) only [jset_k, jset_j, jset_same, true_and, and_true]
                         exact h
                     · exact hI.2.2.1.2.2.2.2.2.2.1.fr (by omega) (fun k j a b => by show _ = M (1 + k) j; unfold cv; simp (disch := omega) only [jset_k, jset_j, jset_same, true_and, and_true]) (fun i a b => by simp (disch := omega) only [jset_k, jset_j, jset_same, true_and, and_true]) (fun i a b => by simp (disch := omega) only [jset_k, jset_j, jset_same, true_and, and_true])
                     · exact hI.2.2.1.2.2.2.2.2.2.2.1.fr (by omega) (fun k j a b => by show _ = M (1 + k) j; unfold cv; simp (disch := omega) only [jset_k, jset_j, jset_same, true_and, and_true]) (fun i a b => by simp (disch := omega) only [jset_k, jset_j, jset_same, true_and, and_true])
                     · exact hI.2.2.1.2.2.2.2.2.2.2.2.1.fr (fun k j a b => by show _ = M (1 + k) j; unfold cv; simp (disch := omega) only [jset_k, jset_j, jset_same, true_and, and_true]) (fun i a b => by simp (disch := omega) only [jset_k, jset_j, jset_same, true_and, and_true])
                     · exact hI.2.2.1.2.2.2.2.2.2.2.2.2.1.fr (fun k j a b => by show _ = M (1 + k) j; unfold cv; simp (disch := omega) only [jset_k, jset_j, jset_same, true_and, and_true]) (fun i a b => by simp (disch := omega) only [jset_k, jset_j, jset_same, true_and, and_true])
                     · exact hI.2.2.1.2.2.2.2.2.2.2.2.2.2.1.fr (by omega) (fun k j a b => by show _ = M (1 + k) j; unfold cv; simp (disch := omega) only [jset_k, jset_j, jset_same, true_and, and_true]) (fun i a b => by simp (disch := omega) only [jset_k, jset_j, jset_same, true_and, and_true])
                     · exact hI.2.2.1.2.2.2.2.2.2.2.2.2.2.2.fr hI.2.1.2.2.2.2.2.2.2.2.2.2 (fun k j a b => by show _ = M (1 + k) j; unfold cv; simp (disch := omega) only [jset_k, jset_j, jset_same, true_and, and_true]) (fun i a b => by simp (disch := omega) only [jset_k, jset_j, jset_same, true_and, and_true])))
      · skip
        refine e_bipush 51 dX11_over_49 (by decide) rfl ?_
        refine e_iret dX11_over_51 ?_
        refine jCt_of mt_yX12_over (Nat.le_of_ble_eq_true rfl) (fun X2 => ?_)
        refine e_aload_n (i := 0) 1 dX12_over_0 rfl rfl rfl ?_
        refine e_iconst 2 dX12_over_1 rfl ?_
        refine e_put0 (j := 0) 5 fl_12_1 dX12_over_2 at_928 rfl rfl rfl (by decide) hI.1 rfl ?_
        refine e_aload_n (i := 0) 6 dX12_over_5 rfl rfl rfl ?_
        refine e_iload_n (i := 1) 7 dX12_over_6 rfl rfl rfl ?_
        refine e_callV 10 mt_yX12_isPledge mv_yX12_isPledge wd_1579 (by decide) dX12_over_7 at_928 jc_12 rfl rfl rfl (Nat.le_of_ble_eq_true rfl) (jroom (by decide)) rfl (m_isPledge (by omega) (fun w7 => ?_) (fun w7 => ?_))
        · dsimp only [jpush]
          first
           | (exfalso; omega)
           | (skip
              refine e_if_ne 13 16 dX12_over_10 (by decide) (by decide) rfl (fun _ => ?_) (fun h => absurd h (by decide))
              refine e_aload_n (i := 0) 17 dX12_over_16 rfl rfl rfl ?_
              refine e_getr (j := 1) 20 fl_12_13 dX12_over_17 at_928 rfl rfl tp_928_1 rfl ?_
              refine e_sipush 23 dX12_over_20 (by decide) rfl ?_
              refine e_iload_n (i := 1) 24 dX12_over_23 rfl rfl rfl ?_
              refine e_iadd 25 dX12_over_24 rfl ?_
              refine e_iald 26 dX12_over_25 ar_929 (by omega) (by omega) rfl (fun r25 => ?_)
              refine e_iconst 27 dX12_over_26 rfl ?_
              refine e_icmp_ne 30 54 dX12_over_27 (by omega) (by decide) (by decide) rfl (fun b27 => ?_) (fun b27 => ?_)
              · first
                 | (exfalso; omega)
                 | (skip
                    refine e_bipush 56 dX12_over_54 (by decide) rfl ?_
                    refine e_iret dX12_over_56 ?_
                    first
                      | (exact ⟨by omega, hI⟩)
                      | (exfalso; omega))
              · first
                 | (exfalso; omega)
                 | (skip
                    refine e_aload_n (i := 0) 31 dX12_over_30 rfl rfl rfl ?_
                    refine e_getr (j := 1) 34 fl_12_13 dX12_over_31 at_928 rfl rfl tp_928_1 rfl ?_
                    refine e_sipush 37 dX12_over_34 (by decide) rfl ?_
                    refine e_iald 38 dX12_over_37 ar_929 (by decide) (by decide) rfl (fun r37 => ?_)
                    refine e_aload_n (i := 0) 39 dX12_over_38 rfl rfl rfl ?_
                    refine e_getr (j := 1) 42 fl_12_13 dX12_over_39 at_928 rfl rfl tp_928_1 rfl ?_
                    refine e_sipush 45 dX12_over_42 (by decide) rfl ?_
                    refine e_iload_n (i := 1) 46 dX12_over_45 rfl rfl rfl ?_
                    refine e_iadd 47 dX12_over_46 rfl ?_
                    refine e_iald 48 dX12_over_47 ar_929 (by omega) (by omega) rfl (fun r47 => ?_)
                    refine e_isub 49 dX12_over_48 rfl ?_
                    refine e_bipush 51 dX12_over_49 (by decide) rfl ?_
                    refine e_icmp_lt 54 57 dX12_over_51 (by omega) (by decide) (by decide) rfl (fun b51 => ?_) (fun b51 => ?_)
                    · first
                       | (exfalso; omega)
                       | (skip
                          refine e_aload_n (i := 0) 58 dX12_over_57 rfl rfl rfl ?_
                          refine e_getr (j := 1) 61 fl_12_13 dX12_over_58 at_928 rfl rfl tp_928_1 rfl ?_
                          refine e_sipush 64 dX12_over_61 (by decide) rfl ?_
                          refine e_iload_n (i := 1) 65 dX12_over_64 rfl rfl rfl ?_
                          refine e_iadd 66 dX12_over_65 rfl ?_
                          refine e_iald 67 dX12_over_66 ar_929 (by omega) (by omega) rfl (fun r66 => ?_)
                          refine e_istore_n (i := 2) (lsn := [(2, _), (0, _), (1, _)]) 68 dX12_over_67 rfl (by decide) rfl rfl ?_
                          refine e_aload_n (i := 0) 69 dX12_over_68 rfl rfl rfl ?_
                          refine e_getr (j := 1) 72 fl_12_13 dX12_over_69 at_928 rfl rfl tp_928_1 rfl ?_
                          refine e_sipush 75 dX12_over_72 (by decide) rfl ?_
                          refine e_iload_n (i := 1) 76 dX12_over_75 rfl rfl rfl ?_
                          refine e_iadd 77 dX12_over_76 rfl ?_
                          refine e_iconst 78 dX12_over_77 rfl ?_
                          refine e_iast 79 dX12_over_78 ar_929 (by omega) (by omega) (by decide) rfl ?_
                          refine e_aload_n (i := 0) 80 dX12_over_79 rfl rfl rfl ?_
                          refine e_getr (j := 1) 83 fl_12_13 dX12_over_80 at_928 rfl rfl tp_928_1 rfl ?_
                          refine e_sipush 86 dX12_over_83 (by decide) rfl ?_
                          refine e_aload_n (i := 0) 87 dX12_over_86 rfl rfl rfl ?_
                          refine e_getr (j := 1) 90 fl_12_13 dX12_over_87 at_928 rfl rfl tp_928_1 rfl ?_
                          refine e_sipush 93 dX12_over_90 (by decide) rfl ?_
                          refine e_iload_n (i := 1) 94 dX12_over_93 rfl rfl rfl ?_
                          refine e_iadd 95 dX12_over_94 rfl ?_
                          refine e_iald 96 dX12_over_95 ar_929 (by omega) (by omega) rfl (fun r95 => ?_)
                          simp (disch := omega) only [jset_k, jset_j, jset_same, true_and, and_true] at r95 ⊢
                          refine e_iadd 97 dX12_over_96 rfl ?_
                          refine e_dup2 98 dX12_over_97 rfl rfl rfl ?_
                          refine e_iald 99 dX12_over_98 ar_929 (by omega) (by omega) rfl (fun r98 => ?_)
                          simp (disch := omega) only [jset_k, jset_j, jset_same, true_and, and_true] at r98 ⊢
                          refine e_iload_n (i := 2) 100 dX12_over_99 rfl rfl rfl ?_
                          refine e_iadd 101 dX12_over_100 rfl ?_
                          refine e_iastw 102 dX12_over_101 ar_929 (by omega) (by omega) rfl ?_
                          refine e_iload_n (i := 2) 103 dX12_over_102 rfl rfl rfl ?_
                          refine e_iret dX12_over_103 ?_
                          first
                            | (exact ⟨by omega, hI⟩)
                            | (exfalso; omega)
                            | (refine ⟨by omega, ?_⟩
                               refine hI.live ?_ ?_ ?_
                               · repeat (first | exact Live.rf | refine Live.c ?_ (by omega) | refine Live.r ?_ (by omega) | refine Live.s ?_ (by omega))
                               · refine ⟨?_, ?_, ?_, ?_, ?_, ?_, ?_, ?_, ?_, ?_, ?_⟩
                                 · exact hI.2.1.1.fr (fun i hi => by simp (disch := omega) only [jset_k, jset_j, jset_same, true_and, and_true])
                                 · exact hI.2.1.2.1.fr (fun i a b => by simp (disch := omega) only [jset_k, jset_j, jset_same, true_and, and_true])
                                 · exact hI.2.1.2.2.1.fr (fun i a b => by simp (disch := omega) only [jset_k, jset_j, jset_same, true_and, and_true])
                                 · exact hI.2.1.2.2.2.1.fr (by omega) (fun i a b => by simp (disch := omega) only [jset_k, jset_j, jset_same, true_and, and_true])
                                 · exact hI.2.1.2.2.2.2.1.fr (by omega) (fun i a b => by simp (disch := omega) only [jset_k, jset_j, jset_same, true_and, and_true]) (fun i a b => by simp (disch := omega) only [jset_k, jset_j, jset_same, true_and, and_true])
                                 · exact hI.2.1.2.2.2.2.2.1.fr (by omega) (fun i a b => by simp (disch := omega) only [jset_k, jset_j, jset_same, true_and, and_true]) (fun i a b => by simp (disch := omega) only [jset_k, jset_j, jset_same, true_and, and_true]) (by simp (disch := omega) only [jset_k, jset_j, jset_same, true_and, and_true]; omega)
                                 · exact hI.2.1.2.2.2.2.2.2.1.fr (by omega) (by simp (disch := omega) only [jset_k, jset_j, jset_same, true_and, and_true]) (fun i a b => by simp (disch := omega) only [jset_k, jset_j, jset_same, true_and, and_true])
                                 · exact hI.2.1.2.2.2.2.2.2.2.1.fr (by omega) (fun i a b => by simp (disch := omega) only [jset_k, jset_j, jset_same, true_and, and_true]) (fun i a b => by simp (disch := omega) only [jset_k, jset_j, jset_same, true_and, and_true]) (by simp (disch := omega) only [jset_k, jset_j, jset_same, true_and, and_true]; omega)
                                 · exact hI.2.1.2.2.2.2.2.2.2.2.1.fr (by omega) (fun i a b => by simp (disch := omega) only [jset_k, jset_j, jset_same, true_and, and_true])
                                 · exact hI.2.1.2.2.2.2.2.2.2.2.2.1.fr (fun i a b => by simp (disch := omega) only [jset_k, jset_j, jset_same, true_and, and_true])
                                 · exact hI.2.1.2.2.2.2.2.2.2.2.2.2.fr (fun i a b => by simp (disch := omega) only [jset_k, jset_j, jset_same, true_and, and_true])
                               · refine ⟨?_, ?_, ?_, ?_, ?_, ?_, ?_, ?_, ?_, ?_, ?_, ?_⟩
                                 · exact hI.2.2.1.1.fr (fun j => by show _ = M (1 + 0) j; unfold cv; simp (disch := omega) only [jset_k, jset_j, jset_same, true_and, and_true]) (fun i hi => by simp (disch := omega) only [jset_k, jset_j, jset_same, true_and, and_true])
                                 · exact hI.2.2.1.2.1.fr hI.2.1.2.1 (by omega) (fun k j a b => by show _ = M (1 + k) j; unfold cv; simp (disch := omega) only [jset_k, jset_j, jset_same, true_and, and_true]) (fun i a b => by simp (disch := omega) only [jset_k, jset_j, jset_same, true_and, and_true])
                                 · exact hI.2.2.1.2.2.1.fr hI.2.1.2.2.1 (by omega) (fun k j a b => by show _ = M (1 + k) j; unfold cv; simp (disch := omega) only [jset_k, jset_j, jset_same, true_and, and_true]) (fun i a b => by simp (disch := omega) only [jset_k, jset_j, jset_same, true_and, and_true])
                                 · exact hI.2.2.1.2.2.2.1.fr (by omega) (fun k j a b => by show _ = M (1 + k) j; unfold cv; simp (disch := omega) only [jset_k, jset_j, jset_same, true_and, and_true]) (fun i a b => by simp (disch := omega) only [jset_k, jset_j, jset_same, true_and, and_true])
                                 · intro q h0 h1
                                   simp (disch := omega) only [jset_k, jset_j, jset_same, true_and, and_true] at h1
                                   simp only [cv1, Int.reduceAdd]
                                   have h := (hC.pers h0 h1).1
                                   by_cases e : q = M 929 (770 + pledge)
                                   · have e2 : M (84 + pledge) 1 = q := by omega
                                     have e3 : M (84 + pledge) 10 = M 929 (1250 + pledge) := by omega
                                     rw [e2, ← e]
                                     simp (disch := omega) only [jset_k, jset_j, jset_same, true_and, and_true]
                                     first | omega | exact ⟨by omega, by omega, by omega, congrArg w32 (by omega), by omega⟩
                                   · simp (disch := omega) only [jset_k, jset_j, jset_same, true_and, and_true]
                                     exact h
                                 · intro q h0 h1
                                   simp (disch := omega) only [jset_k, jset_j, jset_same, true_and, and_true] at h1
                                   simp only [cv1, Int.reduceAdd]
                                   have h := hC.pl h0 h1
                                   by_cases e : q = pledge
                                   · subst e
                                     simp (disch := omega) only [jset_k, jset_j, jset_same, true_and, and_true]
                                     first | omega | simp | exact h
                                   · simp (disch := omega) only [jset_k, jset_j, jset_same, true_and, and_true]
                                     exact h
                                 · exact hI.2.2.1.2.2.2.2.2.2.1.fr (by omega) (fun k j a b => by show _ = M (1 + k) j; unfold cv; simp (disch := omega) only [jset_k, jset_j, jset_same, true_and, and_true]) (fun i a b => by simp (disch := omega) only [jset_k, jset_j, jset_same, true_and, and_true]) (fun i a b => by simp (disch := omega) only [jset_k, jset_j, jset_same, true_and, and_true])
                                 · exact hI.2.2.1.2.2.2.2.2.2.2.1.fr (by omega) (fun k j a b => by show _ = M (1 + k) j; unfold cv; simp (disch := omega) only [jset_k, jset_j, jset_same, true_and, and_true]) (fun i a b => by simp (disch := omega) only [jset_k, jset_j, jset_same, true_and, and_true])
                                 · exact hI.2.2.1.2.2.2.2.2.2.2.2.1.fr (fun k j a b => by show _ = M (1 + k) j; unfold cv; simp (disch := omega) only [jset_k, jset_j, jset_same, true_and, and_true]) (fun i a b => by simp (disch := omega) only [jset_k, jset_j, jset_same, true_and, and_true])
                                 · exact hI.2.2.1.2.2.2.2.2.2.2.2.2.1.fr (fun k j a b => by show _ = M (1 + k) j; unfold cv; simp (disch := omega) only [jset_k, jset_j, jset_same, true_and, and_true]) (fun i a b => by simp (disch := omega) only [jset_k, jset_j, jset_same, true_and, and_true])
                                 · exact hI.2.2.1.2.2.2.2.2.2.2.2.2.2.1.fr (by omega) (fun k j a b => by show _ = M (1 + k) j; unfold cv; simp (disch := omega) only [jset_k, jset_j, jset_same, true_and, and_true]) (fun i a b => by simp (disch := omega) only [jset_k, jset_j, jset_same, true_and, and_true])
                                 · exact hI.2.2.1.2.2.2.2.2.2.2.2.2.2.2.fr hI.2.1.2.2.2.2.2.2.2.2.2.2 (fun k j a b => by show _ = M (1 + k) j; unfold cv; simp (disch := omega) only [jset_k, jset_j, jset_same, true_and, and_true]) (fun i a b => by simp (disch := omega) only [jset_k, jset_j, jset_same, true_and, and_true])))
                    · first
                       | (exfalso; omega)
                       | (skip
                          refine e_bipush 56 dX12_over_54 (by decide) rfl ?_
                          refine e_iret dX12_over_56 ?_
                          first
                            | (exact ⟨by omega, hI⟩)
                            | (exfalso; omega))))
        · dsimp only [jpush]
          first
           | (exfalso; omega)
           | (skip
              refine e_if_ne 13 16 dX12_over_10 (by decide) (by decide) rfl (fun h => absurd h (by decide)) (fun _ => ?_)
              refine e_bipush 15 dX12_over_13 (by decide) rfl ?_
              refine e_iret dX12_over_15 ?_
              first
                | (exact ⟨by omega, hI⟩)
                | (exfalso; omega))
  · dsimp only [jpush]
    refine e_if_ne 11 14 dX11_over_8 (by decide) (by decide) rfl (fun h => absurd h (by decide)) (fun _ => ?_)
    refine e_bipush 13 dX11_over_11 (by decide) rfl ?_
    refine e_iret dX11_over_13 ?_
    refine jCt_of mt_yX12_over (Nat.le_of_ble_eq_true rfl) (fun X2 => ?_)
    refine e_aload_n (i := 0) 1 dX12_over_0 rfl rfl rfl ?_
    refine e_iconst 2 dX12_over_1 rfl ?_
    refine e_put0 (j := 0) 5 fl_12_1 dX12_over_2 at_928 rfl rfl rfl (by decide) hI.1 rfl ?_
    refine e_aload_n (i := 0) 6 dX12_over_5 rfl rfl rfl ?_
    refine e_iload_n (i := 1) 7 dX12_over_6 rfl rfl rfl ?_
    refine e_callV 10 mt_yX12_isPledge mv_yX12_isPledge wd_1579 (by decide) dX12_over_7 at_928 jc_12 rfl rfl rfl (Nat.le_of_ble_eq_true rfl) (jroom (by decide)) rfl (m_isPledge (by omega) (fun w7 => ?_) (fun w7 => ?_))
    · dsimp only [jpush]
      first
       | (exfalso; omega)
       | (skip
          refine e_if_ne 13 16 dX12_over_10 (by decide) (by decide) rfl (fun _ => ?_) (fun h => absurd h (by decide))
          refine e_aload_n (i := 0) 17 dX12_over_16 rfl rfl rfl ?_
          refine e_getr (j := 1) 20 fl_12_13 dX12_over_17 at_928 rfl rfl tp_928_1 rfl ?_
          refine e_sipush 23 dX12_over_20 (by decide) rfl ?_
          refine e_iload_n (i := 1) 24 dX12_over_23 rfl rfl rfl ?_
          refine e_iadd 25 dX12_over_24 rfl ?_
          refine e_iald 26 dX12_over_25 ar_929 (by omega) (by omega) rfl (fun r25 => ?_)
          refine e_iconst 27 dX12_over_26 rfl ?_
          refine e_icmp_ne 30 54 dX12_over_27 (by omega) (by decide) (by decide) rfl (fun b27 => ?_) (fun b27 => ?_)
          · first
             | (exfalso; omega)
             | (skip
                refine e_bipush 56 dX12_over_54 (by decide) rfl ?_
                refine e_iret dX12_over_56 ?_
                first
                  | (exact ⟨by omega, hI⟩)
                  | (exfalso; omega))
          · first
             | (exfalso; omega)
             | (skip
                refine e_aload_n (i := 0) 31 dX12_over_30 rfl rfl rfl ?_
                refine e_getr (j := 1) 34 fl_12_13 dX12_over_31 at_928 rfl rfl tp_928_1 rfl ?_
                refine e_sipush 37 dX12_over_34 (by decide) rfl ?_
                refine e_iald 38 dX12_over_37 ar_929 (by decide) (by decide) rfl (fun r37 => ?_)
                refine e_aload_n (i := 0) 39 dX12_over_38 rfl rfl rfl ?_
                refine e_getr (j := 1) 42 fl_12_13 dX12_over_39 at_928 rfl rfl tp_928_1 rfl ?_
                refine e_sipush 45 dX12_over_42 (by decide) rfl ?_
                refine e_iload_n (i := 1) 46 dX12_over_45 rfl rfl rfl ?_
                refine e_iadd 47 dX12_over_46 rfl ?_
                refine e_iald 48 dX12_over_47 ar_929 (by omega) (by omega) rfl (fun r47 => ?_)
                refine e_isub 49 dX12_over_48 rfl ?_
                refine e_bipush 51 dX12_over_49 (by decide) rfl ?_
                refine e_icmp_lt 54 57 dX12_over_51 (by omega) (by decide) (by decide) rfl (fun b51 => ?_) (fun b51 => ?_)
                · first
                   | (exfalso; omega)
                   | (skip
                      refine e_aload_n (i := 0) 58 dX12_over_57 rfl rfl rfl ?_
                      refine e_getr (j := 1) 61 fl_12_13 dX12_over_58 at_928 rfl rfl tp_928_1 rfl ?_
                      refine e_sipush 64 dX12_over_61 (by decide) rfl ?_
                      refine e_iload_n (i := 1) 65 dX12_over_64 rfl rfl rfl ?_
                      refine e_iadd 66 dX12_over_65 rfl ?_
                      refine e_iald 67 dX12_over_66 ar_929 (by omega) (by omega) rfl (fun r66 => ?_)
                      refine e_istore_n (i := 2) (lsn := [(2, _), (0, _), (1, _)]) 68 dX12_over_67 rfl (by decide) rfl rfl ?_
                      refine e_aload_n (i := 0) 69 dX12_over_68 rfl rfl rfl ?_
                      refine e_getr (j := 1) 72 fl_12_13 dX12_over_69 at_928 rfl rfl tp_928_1 rfl ?_
                      refine e_sipush 75 dX12_over_72 (by decide) rfl ?_
                      refine e_iload_n (i := 1) 76 dX12_over_75 rfl rfl rfl ?_
                      refine e_iadd 77 dX12_over_76 rfl ?_
                      refine e_iconst 78 dX12_over_77 rfl ?_
                      refine e_iast 79 dX12_over_78 ar_929 (by omega) (by omega) (by decide) rfl ?_
                      refine e_aload_n (i := 0) 80 dX12_over_79 rfl rfl rfl ?_
                      refine e_getr (j := 1) 83 fl_12_13 dX12_over_80 at_928 rfl rfl tp_928_1 rfl ?_
                      refine e_sipush 86 dX12_over_83 (by decide) rfl ?_
                      refine e_aload_n (i := 0) 87 dX12_over_86 rfl rfl rfl ?_
                      refine e_getr (j := 1) 90 fl_12_13 dX12_over_87 at_928 rfl rfl tp_928_1 rfl ?_
                      refine e_sipush 93 dX12_over_90 (by decide) rfl ?_
                      refine e_iload_n (i := 1) 94 dX12_over_93 rfl rfl rfl ?_
                      refine e_iadd 95 dX12_over_94 rfl ?_
                      refine e_iald 96 dX12_over_95 ar_929 (by omega) (by omega) rfl (fun r95 => ?_)
                      simp (disch := omega) only [jset_k, jset_j, jset_same, true_and, and_true] at r95 ⊢
                      refine e_iadd 97 dX12_over_96 rfl ?_
                      refine e_dup2 98 dX12_over_97 rfl rfl rfl ?_
                      refine e_iald 99 dX12_over_98 ar_929 (by omega) (by omega) rfl (fun r98 => ?_)
                      simp (disch := omega) only [jset_k, jset_j, jset_same, true_and, and_true] at r98 ⊢
                      refine e_iload_n (i := 2) 100 dX12_over_99 rfl rfl rfl ?_
                      refine e_iadd 101 dX12_over_100 rfl ?_
                      refine e_iastw 102 dX12_over_101 ar_929 (by omega) (by omega) rfl ?_
                      refine e_iload_n (i := 2) 103 dX12_over_102 rfl rfl rfl ?_
                      refine e_iret dX12_over_103 ?_
                      first
                        | (exact ⟨by omega, hI⟩)
                        | (exfalso; omega)
                        | (refine ⟨by omega, ?_⟩
                           refine hI.live ?_ ?_ ?_
                           · repeat (first | exact Live.rf | refine Live.c ?_ (by omega) | refine Live.r ?_ (by omega) | refine Live.s ?_ (by omega))
                           · refine ⟨?_, ?_, ?_, ?_, ?_, ?_, ?_, ?_, ?_, ?_, ?_⟩
                             · exact hI.2.1.1.fr (fun i hi => by simp (disch := omega) only [jset_k, jset_j, jset_same, true_and, and_true])
                             · exact hI.2.1.2.1.fr (fun i a b => by simp (disch := omega) only [jset_k, jset_j, jset_same, true_and, and_true])
                             · exact hI.2.1.2.2.1.fr (fun i a b => by simp (disch := omega) only [jset_k, jset_j, jset_same, true_and, and_true])
                             · exact hI.2.1.2.2.2.1.fr (by omega) (fun i a b => by simp (disch := omega) only [jset_k, jset_j, jset_same, true_and, and_true])
                             · exact hI.2.1.2.2.2.2.1.fr (by omega) (fun i a b => by simp (disch := omega) only [jset_k, jset_j, jset_same, true_and, and_true]) (fun i a b => by simp (disch := omega) only [jset_k, jset_j, jset_same, true_and, and_true])
                             · exact hI.2.1.2.2.2.2.2.1.fr (by omega) (fun i a b => by simp (disch := omega) only [jset_k, jset_j, jset_same, true_and, and_true]) (fun i a b => by simp (disch := omega) only [jset_k, jset_j, jset_same, true_and, and_true]) (by simp (disch := omega) only [jset_k, jset_j, jset_same, true_and, and_true]; omega)
                             · exact hI.2.1.2.2.2.2.2.2.1.fr (by omega) (by simp (disch := omega) only [jset_k, jset_j, jset_same, true_and, and_true]) (fun i a b => by simp (disch := omega) only [jset_k, jset_j, jset_same, true_and, and_true])
                             · exact hI.2.1.2.2.2.2.2.2.2.1.fr (by omega) (fun i a b => by simp (disch := omega) only [jset_k, jset_j, jset_same, true_and, and_true]) (fun i a b => by simp (disch := omega) only [jset_k, jset_j, jset_same, true_and, and_true]) (by simp (disch := omega) only [jset_k, jset_j, jset_same, true_and, and_true]; omega)
                             · exact hI.2.1.2.2.2.2.2.2.2.2.1.fr (by omega) (fun i a b => by simp (disch := omega) only [jset_k, jset_j, jset_same, true_and, and_true])
                             · exact hI.2.1.2.2.2.2.2.2.2.2.2.1.fr (fun i a b => by simp (disch := omega) only [jset_k, jset_j, jset_same, true_and, and_true])
                             · exact hI.2.1.2.2.2.2.2.2.2.2.2.2.fr (fun i a b => by simp (disch := omega) only [jset_k, jset_j, jset_same, true_and, and_true])
                           · refine ⟨?_, ?_, ?_, ?_, ?_, ?_, ?_, ?_, ?_, ?_, ?_, ?_⟩
                             · exact hI.2.2.1.1.fr (fun j => by show _ = M (1 + 0) j; unfold cv; simp (disch := omega) only [jset_k, jset_j, jset_same, true_and, and_true]) (fun i hi => by simp (disch := omega) only [jset_k, jset_j, jset_same, true_and, and_true])
                             · exact hI.2.2.1.2.1.fr hI.2.1.2.1 (by omega) (fun k j a b => by show _ = M (1 + k) j; unfold cv; simp (disch := omega) only [jset_k, jset_j, jset_same, true_and, and_true]) (fun i a b => by simp (disch := omega) only [jset_k, jset_j, jset_same, true_and, and_true])
                             · exact hI.2.2.1.2.2.1.fr hI.2.1.2.2.1 (by omega) (fun k j a b => by show _ = M (1 + k) j; unfold cv; simp (disch := omega) only [jset_k, jset_j, jset_same, true_and, and_true]) (fun i a b => by simp (disch := omega) only [jset_k, jset_j, jset_same, true_and, and_true])
                             · exact hI.2.2.1.2.2.2.1.fr (by omega) (fun k j a b => by show _ = M (1 + k) j; unfold cv; simp (disch := omega) only [jset_k, jset_j, jset_same, true_and, and_true]) (fun i a b => by simp (disch := omega) only [jset_k, jset_j, jset_same, true_and, and_true])
                             · intro q h0 h1
                               simp (disch := omega) only [jset_k, jset_j, jset_same, true_and, and_true] at h1
                               simp only [cv1, Int.reduceAdd]
                               have h := (hC.pers h0 h1).1
                               by_cases e : q = M 929 (770 + pledge)
                               · have e2 : M (84 + pledge) 1 = q := by omega
                                 have e3 : M (84 + pledge) 10 = M 929 (1250 + pledge) := by omega
                                 rw [e2, ← e]
                                 simp (disch := omega) only [jset_k, jset_j, jset_same, true_and, and_true]
                                 first | omega | exact ⟨by omega, by omega, by omega, congrArg w32 (by omega), by omega⟩
                               · simp (disch := omega) only [jset_k, jset_j, jset_same, true_and, and_true]
                                 exact h
                             · intro q h0 h1
                               simp (disch := omega) only [jset_k, jset_j, jset_same, true_and, and_true] at h1
                               simp only [cv1, Int.reduceAdd]
                               have h := hC.pl h0 h1
                               by_cases e : q = pledge
                               · subst e
                                 simp (disch := omega) only [jset_k, jset_j, jset_same, true_and, and_true]
                                 first | omega | simp | exact h
                               · simp (disch := omega) only [jset_k, jset_j, jset_same, true_and, and_true]
                                 exact h
                             · exact hI.2.2.1.2.2.2.2.2.2.1.fr (by omega) (fun k j a b => by show _ = M (1 + k) j; unfold cv; simp (disch := omega) only [jset_k, jset_j, jset_same, true_and, and_true]) (fun i a b => by simp (disch := omega) only [jset_k, jset_j, jset_same, true_and, and_true]) (fun i a b => by simp (disch := omega) only [jset_k, jset_j, jset_same, true_and, and_true])
                             · exact hI.2.2.1.2.2.2.2.2.2.2.1.fr (by omega) (fun k j a b => by show _ = M (1 + k) j; unfold cv; simp (disch := omega) only [jset_k, jset_j, jset_same, true_and, and_true]) (fun i a b => by simp (disch := omega) only [jset_k, jset_j, jset_same, true_and, and_true])
                             · exact hI.2.2.1.2.2.2.2.2.2.2.2.1.fr (fun k j a b => by show _ = M (1 + k) j; unfold cv; simp (disch := omega) only [jset_k, jset_j, jset_same, true_and, and_true]) (fun i a b => by simp (disch := omega) only [jset_k, jset_j, jset_same, true_and, and_true])
                             · exact hI.2.2.1.2.2.2.2.2.2.2.2.2.1.fr (fun k j a b => by show _ = M (1 + k) j; unfold cv; simp (disch := omega) only [jset_k, jset_j, jset_same, true_and, and_true]) (fun i a b => by simp (disch := omega) only [jset_k, jset_j, jset_same, true_and, and_true])
                             · exact hI.2.2.1.2.2.2.2.2.2.2.2.2.2.1.fr (by omega) (fun k j a b => by show _ = M (1 + k) j; unfold cv; simp (disch := omega) only [jset_k, jset_j, jset_same, true_and, and_true]) (fun i a b => by simp (disch := omega) only [jset_k, jset_j, jset_same, true_and, and_true])
                             · exact hI.2.2.1.2.2.2.2.2.2.2.2.2.2.2.fr hI.2.1.2.2.2.2.2.2.2.2.2.2 (fun k j a b => by show _ = M (1 + k) j; unfold cv; simp (disch := omega) only [jset_k, jset_j, jset_same, true_and, and_true]) (fun i a b => by simp (disch := omega) only [jset_k, jset_j, jset_same, true_and, and_true])))
                · first
                   | (exfalso; omega)
                   | (skip
                      refine e_bipush 56 dX12_over_54 (by decide) rfl ?_
                      refine e_iret dX12_over_56 ?_
                      first
                        | (exact ⟨by omega, hI⟩)
                        | (exfalso; omega))))
    · dsimp only [jpush]
      first
       | (exfalso; omega)
       | (skip
          refine e_if_ne 13 16 dX12_over_10 (by decide) (by decide) rfl (fun h => absurd h (by decide)) (fun _ => ?_)
          refine e_bipush 15 dX12_over_13 (by decide) rfl ?_
          refine e_iret dX12_over_15 ?_
          first
            | (exact ⟨by omega, hI⟩)
            | (exfalso; omega))

