/-! PAIRS: tickets, pledges, told -/
theorem p_held {M : jM} (hI : Inv M) {number : Int} (hnumber : -2147483648 ≤ number ∧ number ≤ 2147483647) {what : Int} (hwhat : -2147483648 ≤ what ∧ what ≤ 2147483647) : jCt yX11_held cX11_held 5 (some .int) 5 [jR 0, jI number, jI what] M (fun z M1 => jCt yX12_held cX12_held 4 (some .int) 4 [jR 928, jI number, jI what] M1 (fun z2 M2 => z = z2 ∧ Inv M2)) := by
  have hC := hI.cr
  have hn := hC.cnt
  have hg := hC.rng
  refine jCt_of mt_yX11_held (Nat.le_of_ble_eq_true rfl) (fun X => ?_)
  refine e_aload_n (i := 0) 1 dX11_held_0 rfl rfl rfl ?_
  refine e_getr (j := 0) 4 fl_11_10 dX11_held_1 at_0 rfl rfl tp_0_0 rfl ?_
  refine e_iload_n (i := 1) 5 dX11_held_4 rfl rfl rfl ?_
  refine e_callV 8 mt_yX8_living mv_yX8_living wd_812 (by decide) dX11_held_5 at_1 jc_8 rfl rfl rfl (Nat.le_of_ble_eq_true rfl) (jroom (by decide)) rfl (c_living (by omega) hC (fun w5 => ?_) (fun w5 => ?_))
  · dsimp only [jpush]
    refine e_istore_n (i := 3) (lsn := [(3, _), (0, _), (1, _), (2, _)]) 9 dX11_held_8 rfl (by decide) rfl rfl ?_
    refine e_iload_n (i := 3) 10 dX11_held_9 rfl rfl rfl ?_
    refine e_iconst 11 dX11_held_10 rfl ?_
    refine e_icmp_ne 14 17 dX11_held_11 (by omega) (by decide) (by decide) rfl (fun b11 => ?_) (fun b11 => ?_)
    · skip
      have ht := hC.tk (t := number / 100 - 1) (by omega) (by omega)
      refine e_aload_n (i := 0) 18 dX11_held_17 rfl rfl rfl ?_
      refine e_getr (j := 0) 21 fl_11_10 dX11_held_18 at_0 rfl rfl tp_0_0 rfl ?_
      refine e_getr (j := 11) 24 fl_11_188 dX11_held_21 at_1 rfl rfl tp_1_11 rfl ?_
      refine e_iload_n (i := 3) 25 dX11_held_24 rfl rfl rfl ?_
      refine e_aald 26 dX11_held_25 ar_19 (by decide) (by omega) (by omega) (tp_ticket (by omega) (by omega)) rfl ?_
      refine e_astore (lsn := [(4, _), (3, _), (0, _), (1, _), (2, _)]) 28 dX11_held_26 (by decide) rfl rfl ?_
      refine e_iload_n (i := 2) 29 dX11_held_28 rfl rfl rfl ?_
      refine e_tsw 89 dX11_held_29 (by omega) (by decide) (fun c0 hc0 hz0 => ?_) (fun b29 => ?_)
      · have hcc : c0 = 0 ∨ c0 = 1 ∨ c0 = 2 := by omega
        rcases hcc with b29 | b29 | b29
        · subst b29
          refine ⟨_, 56, rfl, by decide, ?_⟩
          refine e_aload 58 dX11_held_56 rfl rfl ?_
          refine e_geti (j := 0) 61 fl_11_192 dX11_held_58 (at_ticket (by omega) (by omega)) (by decide) rfl rfl (fun r58 => ?_)
          refine e_iret dX11_held_61 ?_
          refine jCt_of mt_yX12_held (Nat.le_of_ble_eq_true rfl) (fun X2 => ?_)
          refine e_aload_n (i := 0) 1 dX12_held_0 rfl rfl rfl ?_
          refine e_iconst 2 dX12_held_1 rfl ?_
          refine e_put0 (j := 0) 5 fl_12_1 dX12_held_2 at_928 rfl rfl rfl (by decide) hI.1 rfl ?_
          refine e_iload_n (i := 2) 6 dX12_held_5 rfl rfl rfl ?_
          refine e_i2l 7 dX12_held_6 (by omega) rfl ?_
          refine e_lconst0 8 dX12_held_7 rfl ?_
          refine e_ldc2 (z := (2)) 11 (ix := 243) wd_1546 (by decide) dX12_held_8 rfl ?_
          refine e_callS 14 mt_yX12_within ms_yX12_within wd_1390 (by decide) dX12_held_11 rfl rfl (Nat.le_of_ble_eq_true rfl) (jroom (by decide)) rfl (m_within (by omega) (by omega) (by omega) (fun w11 => ?_) (fun w11 => ?_))
          · dsimp only [jpush]
            first
             | (exfalso; omega)
             | (skip
                refine e_if_eq 17 25 dX12_held_14 (by decide) (by decide) rfl (fun h => absurd h (by decide)) (fun _ => ?_)
                refine e_aload_n (i := 0) 18 dX12_held_17 rfl rfl rfl ?_
                refine e_iload_n (i := 1) 19 dX12_held_18 rfl rfl rfl ?_
                refine e_callV 22 mt_yX12_stateOf mv_yX12_stateOf wd_1535 (by decide) dX12_held_19 at_928 jc_12 rfl rfl rfl (Nat.le_of_ble_eq_true rfl) (jroom (by decide)) rfl (m_stateOf (by omega) hg.2.2.2.1 (fun t a b => (hC.tk a b).2.2.2.1) (fun w19 => ?_) (fun w19 => ?_) (fun w19 => ?_) (fun w19 => ?_))
                · (exfalso; (try simp only [tkBad, tkGood] at *); omega)
                · (exfalso; (try simp only [tkBad, tkGood] at *); omega)
                · (exfalso; (try simp only [tkBad, tkGood] at *); omega)
                · dsimp only [jpush]
                  first
                   | (exfalso; omega)
                   | (skip
                      refine e_if_eq 25 28 dX12_held_22 (by decide) (by decide) rfl (fun _ => ?_) (fun h => absurd h (by decide))
                      have hg2 := w19.1
                      unfold tkGood at hg2
                      have ed : number.tdiv 100 = number / 100 := Int.tdiv_eq_ediv_of_nonneg (by omega)
                      refine e_iload_n (i := 1) 29 dX12_held_28 rfl rfl rfl ?_
                      refine e_bipush 31 dX12_held_29 (by decide) rfl ?_
                      refine e_idiv 32 dX12_held_31 (by omega) (by decide) (by decide) rfl ?_
                      rw [ed]
                      refine e_iconst 33 dX12_held_32 rfl ?_
                      refine e_isub 34 dX12_held_33 rfl ?_
                      refine e_istore_n (i := 3) (lsn := [(3, _), (0, _), (1, _), (2, _)]) 35 dX12_held_34 rfl (by decide) rfl rfl ?_
                      refine e_iload_n (i := 2) 36 dX12_held_35 rfl rfl rfl ?_
                      refine e_if_ne 39 52 dX12_held_36 (by omega) (by decide) rfl (fun b36 => ?_) (fun b36 => ?_)
                      · first
                         | (exfalso; omega)
                         | (skip
                            refine e_iload_n (i := 2) 53 dX12_held_52 rfl rfl rfl ?_
                            refine e_iconst 54 dX12_held_53 rfl ?_
                            refine e_icmp_ne 57 70 dX12_held_54 (by omega) (by decide) (by decide) rfl (fun b54 => ?_) (fun b54 => ?_)
                            · first
                               | (exfalso; omega)
                               | (skip
                                  refine e_aload_n (i := 0) 71 dX12_held_70 rfl rfl rfl ?_
                                  refine e_aload_n (i := 0) 72 dX12_held_71 rfl rfl rfl ?_
                                  refine e_getr (j := 1) 75 fl_12_13 dX12_held_72 at_928 rfl rfl tp_928_1 rfl ?_
                                  refine e_sipush 78 dX12_held_75 (by decide) rfl ?_
                                  refine e_iload_n (i := 3) 79 dX12_held_78 rfl rfl rfl ?_
                                  refine e_iadd 80 dX12_held_79 rfl ?_
                                  refine e_iald 81 dX12_held_80 ar_929 (by omega) (by omega) rfl (fun r80 => ?_)
                                  refine e_callV 84 mt_yX12_dueOf mv_yX12_dueOf wd_1547 (by decide) dX12_held_81 at_928 jc_12 rfl rfl rfl (Nat.le_of_ble_eq_true rfl) (jroom (by decide)) rfl (m_dueOf (hC.1.okP (by omega) (by omega)) ?_)
                                  dsimp only [jpush]
                                  refine e_iret dX12_held_84 ?_
                                  first
                                    | (exact ⟨by omega, hI⟩)
                                    | (exfalso; (try simp only [tkBad, tkGood] at *); omega))
                            · first
                               | (exfalso; omega)
                               | (skip
                                  refine e_aload_n (i := 0) 58 dX12_held_57 rfl rfl rfl ?_
                                  refine e_getr (j := 1) 61 fl_12_13 dX12_held_58 at_928 rfl rfl tp_928_1 rfl ?_
                                  refine e_sipush 64 dX12_held_61 (by decide) rfl ?_
                                  refine e_iload_n (i := 3) 65 dX12_held_64 rfl rfl rfl ?_
                                  refine e_iadd 66 dX12_held_65 rfl ?_
                                  refine e_iald 67 dX12_held_66 ar_929 (by omega) (by omega) rfl (fun r66 => ?_)
                                  refine e_goto 84 dX12_held_67 (by decide) ?_
                                  refine e_iret dX12_held_84 ?_
                                  first
                                    | (exact ⟨by omega, hI⟩)
                                    | (exfalso; (try simp only [tkBad, tkGood] at *); omega)))
                      · first
                         | (exfalso; omega)
                         | (skip
                            refine e_aload_n (i := 0) 40 dX12_held_39 rfl rfl rfl ?_
                            refine e_getr (j := 1) 43 fl_12_13 dX12_held_40 at_928 rfl rfl tp_928_1 rfl ?_
                            refine e_sipush 46 dX12_held_43 (by decide) rfl ?_
                            refine e_iload_n (i := 3) 47 dX12_held_46 rfl rfl rfl ?_
                            refine e_iadd 48 dX12_held_47 rfl ?_
                            refine e_iald 49 dX12_held_48 ar_929 (by omega) (by omega) rfl (fun r48 => ?_)
                            refine e_goto 84 dX12_held_49 (by decide) ?_
                            refine e_iret dX12_held_84 ?_
                            first
                              | (exact ⟨by omega, hI⟩)
                              | (exfalso; (try simp only [tkBad, tkGood] at *); omega))))
          · dsimp only [jpush]
            first
             | (exfalso; omega)
             | (skip
                refine e_if_eq 17 25 dX12_held_14 (by decide) (by decide) rfl (fun _ => ?_) (fun h => absurd h (by decide))
                refine e_bipush 27 dX12_held_25 (by decide) rfl ?_
                refine e_iret dX12_held_27 ?_
                first
                  | (exact ⟨by omega, hI⟩)
                  | (exfalso; (try simp only [tkBad, tkGood] at *); omega))
        · subst b29
          refine ⟨_, 62, rfl, by decide, ?_⟩
          refine e_aload 64 dX11_held_62 rfl rfl ?_
          refine e_geti (j := 1) 67 fl_11_197 dX11_held_64 (at_ticket (by omega) (by omega)) (by decide) rfl rfl (fun r64 => ?_)
          refine e_iret dX11_held_67 ?_
          refine jCt_of mt_yX12_held (Nat.le_of_ble_eq_true rfl) (fun X2 => ?_)
          refine e_aload_n (i := 0) 1 dX12_held_0 rfl rfl rfl ?_
          refine e_iconst 2 dX12_held_1 rfl ?_
          refine e_put0 (j := 0) 5 fl_12_1 dX12_held_2 at_928 rfl rfl rfl (by decide) hI.1 rfl ?_
          refine e_iload_n (i := 2) 6 dX12_held_5 rfl rfl rfl ?_
          refine e_i2l 7 dX12_held_6 (by omega) rfl ?_
          refine e_lconst0 8 dX12_held_7 rfl ?_
          refine e_ldc2 (z := (2)) 11 (ix := 243) wd_1546 (by decide) dX12_held_8 rfl ?_
          refine e_callS 14 mt_yX12_within ms_yX12_within wd_1390 (by decide) dX12_held_11 rfl rfl (Nat.le_of_ble_eq_true rfl) (jroom (by decide)) rfl (m_within (by omega) (by omega) (by omega) (fun w11 => ?_) (fun w11 => ?_))
          · dsimp only [jpush]
            first
             | (exfalso; omega)
             | (skip
                refine e_if_eq 17 25 dX12_held_14 (by decide) (by decide) rfl (fun h => absurd h (by decide)) (fun _ => ?_)
                refine e_aload_n (i := 0) 18 dX12_held_17 rfl rfl rfl ?_
                refine e_iload_n (i := 1) 19 dX12_held_18 rfl rfl rfl ?_
                refine e_callV 22 mt_yX12_stateOf mv_yX12_stateOf wd_1535 (by decide) dX12_held_19 at_928 jc_12 rfl rfl rfl (Nat.le_of_ble_eq_true rfl) (jroom (by decide)) rfl (m_stateOf (by omega) hg.2.2.2.1 (fun t a b => (hC.tk a b).2.2.2.1) (fun w19 => ?_) (fun w19 => ?_) (fun w19 => ?_) (fun w19 => ?_))
                · (exfalso; (try simp only [tkBad, tkGood] at *); omega)
                · (exfalso; (try simp only [tkBad, tkGood] at *); omega)
                · (exfalso; (try simp only [tkBad, tkGood] at *); omega)
                · dsimp only [jpush]
                  first
                   | (exfalso; omega)
                   | (skip
                      refine e_if_eq 25 28 dX12_held_22 (by decide) (by decide) rfl (fun _ => ?_) (fun h => absurd h (by decide))
                      have hg2 := w19.1
                      unfold tkGood at hg2
                      have ed : number.tdiv 100 = number / 100 := Int.tdiv_eq_ediv_of_nonneg (by omega)
                      refine e_iload_n (i := 1) 29 dX12_held_28 rfl rfl rfl ?_
                      refine e_bipush 31 dX12_held_29 (by decide) rfl ?_
                      refine e_idiv 32 dX12_held_31 (by omega) (by decide) (by decide) rfl ?_
                      rw [ed]
                      refine e_iconst 33 dX12_held_32 rfl ?_
                      refine e_isub 34 dX12_held_33 rfl ?_
                      refine e_istore_n (i := 3) (lsn := [(3, _), (0, _), (1, _), (2, _)]) 35 dX12_held_34 rfl (by decide) rfl rfl ?_
                      refine e_iload_n (i := 2) 36 dX12_held_35 rfl rfl rfl ?_
                      refine e_if_ne 39 52 dX12_held_36 (by omega) (by decide) rfl (fun b36 => ?_) (fun b36 => ?_)
                      · first
                         | (exfalso; omega)
                         | (skip
                            refine e_iload_n (i := 2) 53 dX12_held_52 rfl rfl rfl ?_
                            refine e_iconst 54 dX12_held_53 rfl ?_
                            refine e_icmp_ne 57 70 dX12_held_54 (by omega) (by decide) (by decide) rfl (fun b54 => ?_) (fun b54 => ?_)
                            · first
                               | (exfalso; omega)
                               | (skip
                                  refine e_aload_n (i := 0) 71 dX12_held_70 rfl rfl rfl ?_
                                  refine e_aload_n (i := 0) 72 dX12_held_71 rfl rfl rfl ?_
                                  refine e_getr (j := 1) 75 fl_12_13 dX12_held_72 at_928 rfl rfl tp_928_1 rfl ?_
                                  refine e_sipush 78 dX12_held_75 (by decide) rfl ?_
                                  refine e_iload_n (i := 3) 79 dX12_held_78 rfl rfl rfl ?_
                                  refine e_iadd 80 dX12_held_79 rfl ?_
                                  refine e_iald 81 dX12_held_80 ar_929 (by omega) (by omega) rfl (fun r80 => ?_)
                                  refine e_callV 84 mt_yX12_dueOf mv_yX12_dueOf wd_1547 (by decide) dX12_held_81 at_928 jc_12 rfl rfl rfl (Nat.le_of_ble_eq_true rfl) (jroom (by decide)) rfl (m_dueOf (hC.1.okP (by omega) (by omega)) ?_)
                                  dsimp only [jpush]
                                  refine e_iret dX12_held_84 ?_
                                  first
                                    | (exact ⟨by omega, hI⟩)
                                    | (exfalso; (try simp only [tkBad, tkGood] at *); omega))
                            · first
                               | (exfalso; omega)
                               | (skip
                                  refine e_aload_n (i := 0) 58 dX12_held_57 rfl rfl rfl ?_
                                  refine e_getr (j := 1) 61 fl_12_13 dX12_held_58 at_928 rfl rfl tp_928_1 rfl ?_
                                  refine e_sipush 64 dX12_held_61 (by decide) rfl ?_
                                  refine e_iload_n (i := 3) 65 dX12_held_64 rfl rfl rfl ?_
                                  refine e_iadd 66 dX12_held_65 rfl ?_
                                  refine e_iald 67 dX12_held_66 ar_929 (by omega) (by omega) rfl (fun r66 => ?_)
                                  refine e_goto 84 dX12_held_67 (by decide) ?_
                                  refine e_iret dX12_held_84 ?_
                                  first
                                    | (exact ⟨by omega, hI⟩)
                                    | (exfalso; (try simp only [tkBad, tkGood] at *); omega)))
                      · first
                         | (exfalso; omega)
                         | (skip
                            refine e_aload_n (i := 0) 40 dX12_held_39 rfl rfl rfl ?_
                            refine e_getr (j := 1) 43 fl_12_13 dX12_held_40 at_928 rfl rfl tp_928_1 rfl ?_
                            refine e_sipush 46 dX12_held_43 (by decide) rfl ?_
                            refine e_iload_n (i := 3) 47 dX12_held_46 rfl rfl rfl ?_
                            refine e_iadd 48 dX12_held_47 rfl ?_
                            refine e_iald 49 dX12_held_48 ar_929 (by omega) (by omega) rfl (fun r48 => ?_)
                            refine e_goto 84 dX12_held_49 (by decide) ?_
                            refine e_iret dX12_held_84 ?_
                            first
                              | (exact ⟨by omega, hI⟩)
                              | (exfalso; (try simp only [tkBad, tkGood] at *); omega))))
          · dsimp only [jpush]
            first
             | (exfalso; omega)
             | (skip
                refine e_if_eq 17 25 dX12_held_14 (by decide) (by decide) rfl (fun _ => ?_) (fun h => absurd h (by decide))
                refine e_bipush 27 dX12_held_25 (by decide) rfl ?_
                refine e_iret dX12_held_27 ?_
                first
                  | (exact ⟨by omega, hI⟩)
                  | (exfalso; (try simp only [tkBad, tkGood] at *); omega))
        · subst b29
          refine ⟨_, 68, rfl, by decide, ?_⟩
          refine e_aload_n (i := 0) 69 dX11_held_68 rfl rfl rfl ?_
          refine e_getr (j := 0) 72 fl_11_10 dX11_held_69 at_0 rfl rfl tp_0_0 rfl ?_
          refine e_aload_n (i := 0) 73 dX11_held_72 rfl rfl rfl ?_
          refine e_getr (j := 0) 76 fl_11_10 dX11_held_73 at_0 rfl rfl tp_0_0 rfl ?_
          refine e_getr (j := 9) 79 fl_11_200 dX11_held_76 at_1 rfl rfl tp_1_9 rfl ?_
          refine e_aload 81 dX11_held_79 rfl rfl ?_
          refine e_geti (j := 0) 84 fl_11_192 dX11_held_81 (at_ticket (by omega) (by omega)) (by decide) rfl rfl (fun r81 => ?_)
          refine e_aald 85 dX11_held_84 ar_18 (by decide) (by omega) (by omega) (tp_pledge (by omega) (by omega)) rfl ?_
          refine e_callV 88 mt_yX8_due mv_yX8_due wd_817 (by decide) dX11_held_85 at_1 jc_8 rfl rfl rfl (Nat.le_of_ble_eq_true rfl) (jroom (by decide)) rfl (c_due (hC.pOk (by omega) (by omega)) ?_)
          dsimp only [jpush]
          refine e_iret dX11_held_88 ?_
          refine jCt_of mt_yX12_held (Nat.le_of_ble_eq_true rfl) (fun X2 => ?_)
          refine e_aload_n (i := 0) 1 dX12_held_0 rfl rfl rfl ?_
          refine e_iconst 2 dX12_held_1 rfl ?_
          refine e_put0 (j := 0) 5 fl_12_1 dX12_held_2 at_928 rfl rfl rfl (by decide) hI.1 rfl ?_
          refine e_iload_n (i := 2) 6 dX12_held_5 rfl rfl rfl ?_
          refine e_i2l 7 dX12_held_6 (by omega) rfl ?_
          refine e_lconst0 8 dX12_held_7 rfl ?_
          refine e_ldc2 (z := (2)) 11 (ix := 243) wd_1546 (by decide) dX12_held_8 rfl ?_
          refine e_callS 14 mt_yX12_within ms_yX12_within wd_1390 (by decide) dX12_held_11 rfl rfl (Nat.le_of_ble_eq_true rfl) (jroom (by decide)) rfl (m_within (by omega) (by omega) (by omega) (fun w11 => ?_) (fun w11 => ?_))
          · dsimp only [jpush]
            first
             | (exfalso; omega)
             | (skip
                refine e_if_eq 17 25 dX12_held_14 (by decide) (by decide) rfl (fun h => absurd h (by decide)) (fun _ => ?_)
                refine e_aload_n (i := 0) 18 dX12_held_17 rfl rfl rfl ?_
                refine e_iload_n (i := 1) 19 dX12_held_18 rfl rfl rfl ?_
                refine e_callV 22 mt_yX12_stateOf mv_yX12_stateOf wd_1535 (by decide) dX12_held_19 at_928 jc_12 rfl rfl rfl (Nat.le_of_ble_eq_true rfl) (jroom (by decide)) rfl (m_stateOf (by omega) hg.2.2.2.1 (fun t a b => (hC.tk a b).2.2.2.1) (fun w19 => ?_) (fun w19 => ?_) (fun w19 => ?_) (fun w19 => ?_))
                · (exfalso; (try simp only [tkBad, tkGood] at *); omega)
                · (exfalso; (try simp only [tkBad, tkGood] at *); omega)
                · (exfalso; (try simp only [tkBad, tkGood] at *); omega)
                · dsimp only [jpush]
                  first
                   | (exfalso; omega)
                   | (skip
                      refine e_if_eq 25 28 dX12_held_22 (by decide) (by decide) rfl (fun _ => ?_) (fun h => absurd h (by decide))
                      have hg2 := w19.1
                      unfold tkGood at hg2
                      have ed : number.tdiv 100 = number / 100 := Int.tdiv_eq_ediv_of_nonneg (by omega)
                      refine e_iload_n (i := 1) 29 dX12_held_28 rfl rfl rfl ?_
                      refine e_bipush 31 dX12_held_29 (by decide) rfl ?_
                      refine e_idiv 32 dX12_held_31 (by omega) (by decide) (by decide) rfl ?_
                      rw [ed]
                      refine e_iconst 33 dX12_held_32 rfl ?_
                      refine e_isub 34 dX12_held_33 rfl ?_
                      refine e_istore_n (i := 3) (lsn := [(3, _), (0, _), (1, _), (2, _)]) 35 dX12_held_34 rfl (by decide) rfl rfl ?_
                      refine e_iload_n (i := 2) 36 dX12_held_35 rfl rfl rfl ?_
                      refine e_if_ne 39 52 dX12_held_36 (by omega) (by decide) rfl (fun b36 => ?_) (fun b36 => ?_)
                      · first
                         | (exfalso; omega)
                         | (skip
                            refine e_iload_n (i := 2) 53 dX12_held_52 rfl rfl rfl ?_
                            refine e_iconst 54 dX12_held_53 rfl ?_
                            refine e_icmp_ne 57 70 dX12_held_54 (by omega) (by decide) (by decide) rfl (fun b54 => ?_) (fun b54 => ?_)
                            · first
                               | (exfalso; omega)
                               | (skip
                                  refine e_aload_n (i := 0) 71 dX12_held_70 rfl rfl rfl ?_
                                  refine e_aload_n (i := 0) 72 dX12_held_71 rfl rfl rfl ?_
                                  refine e_getr (j := 1) 75 fl_12_13 dX12_held_72 at_928 rfl rfl tp_928_1 rfl ?_
                                  refine e_sipush 78 dX12_held_75 (by decide) rfl ?_
                                  refine e_iload_n (i := 3) 79 dX12_held_78 rfl rfl rfl ?_
                                  refine e_iadd 80 dX12_held_79 rfl ?_
                                  refine e_iald 81 dX12_held_80 ar_929 (by omega) (by omega) rfl (fun r80 => ?_)
                                  refine e_callV 84 mt_yX12_dueOf mv_yX12_dueOf wd_1547 (by decide) dX12_held_81 at_928 jc_12 rfl rfl rfl (Nat.le_of_ble_eq_true rfl) (jroom (by decide)) rfl (m_dueOf (hC.1.okP (by omega) (by omega)) ?_)
                                  dsimp only [jpush]
                                  refine e_iret dX12_held_84 ?_
                                  first
                                    | (exact ⟨by omega, hI⟩)
                                    | (rw [hC.iOf (by omega) (by omega), ht.1.1, (hC.pl (p := M 929 (1311 + (number / 100 - 1))) (by omega) (by omega)).1.2.2.1]
                                       exact ⟨rfl, hI⟩))
                            · first
                               | (exfalso; omega)
                               | (skip
                                  refine e_aload_n (i := 0) 58 dX12_held_57 rfl rfl rfl ?_
                                  refine e_getr (j := 1) 61 fl_12_13 dX12_held_58 at_928 rfl rfl tp_928_1 rfl ?_
                                  refine e_sipush 64 dX12_held_61 (by decide) rfl ?_
                                  refine e_iload_n (i := 3) 65 dX12_held_64 rfl rfl rfl ?_
                                  refine e_iadd 66 dX12_held_65 rfl ?_
                                  refine e_iald 67 dX12_held_66 ar_929 (by omega) (by omega) rfl (fun r66 => ?_)
                                  refine e_goto 84 dX12_held_67 (by decide) ?_
                                  refine e_iret dX12_held_84 ?_
                                  first
                                    | (exact ⟨by omega, hI⟩)
                                    | (rw [hC.iOf (by omega) (by omega), ht.1.1, (hC.pl (p := M 929 (1311 + (number / 100 - 1))) (by omega) (by omega)).1.2.2.1]
                                       exact ⟨rfl, hI⟩)))
                      · first
                         | (exfalso; omega)
                         | (skip
                            refine e_aload_n (i := 0) 40 dX12_held_39 rfl rfl rfl ?_
                            refine e_getr (j := 1) 43 fl_12_13 dX12_held_40 at_928 rfl rfl tp_928_1 rfl ?_
                            refine e_sipush 46 dX12_held_43 (by decide) rfl ?_
                            refine e_iload_n (i := 3) 47 dX12_held_46 rfl rfl rfl ?_
                            refine e_iadd 48 dX12_held_47 rfl ?_
                            refine e_iald 49 dX12_held_48 ar_929 (by omega) (by omega) rfl (fun r48 => ?_)
                            refine e_goto 84 dX12_held_49 (by decide) ?_
                            refine e_iret dX12_held_84 ?_
                            first
                              | (exact ⟨by omega, hI⟩)
                              | (rw [hC.iOf (by omega) (by omega), ht.1.1, (hC.pl (p := M 929 (1311 + (number / 100 - 1))) (by omega) (by omega)).1.2.2.1]
                                 exact ⟨rfl, hI⟩))))
          · dsimp only [jpush]
            first
             | (exfalso; omega)
             | (skip
                refine e_if_eq 17 25 dX12_held_14 (by decide) (by decide) rfl (fun _ => ?_) (fun h => absurd h (by decide))
                refine e_bipush 27 dX12_held_25 (by decide) rfl ?_
                refine e_iret dX12_held_27 ?_
                first
                  | (exact ⟨by omega, hI⟩)
                  | (exfalso; (try simp only [tkBad, tkGood] at *); omega))
      · skip
        refine e_bipush 91 dX11_held_89 (by decide) rfl ?_
        refine e_iret dX11_held_91 ?_
        refine jCt_of mt_yX12_held (Nat.le_of_ble_eq_true rfl) (fun X2 => ?_)
        refine e_aload_n (i := 0) 1 dX12_held_0 rfl rfl rfl ?_
        refine e_iconst 2 dX12_held_1 rfl ?_
        refine e_put0 (j := 0) 5 fl_12_1 dX12_held_2 at_928 rfl rfl rfl (by decide) hI.1 rfl ?_
        refine e_iload_n (i := 2) 6 dX12_held_5 rfl rfl rfl ?_
        refine e_i2l 7 dX12_held_6 (by omega) rfl ?_
        refine e_lconst0 8 dX12_held_7 rfl ?_
        refine e_ldc2 (z := (2)) 11 (ix := 243) wd_1546 (by decide) dX12_held_8 rfl ?_
        refine e_callS 14 mt_yX12_within ms_yX12_within wd_1390 (by decide) dX12_held_11 rfl rfl (Nat.le_of_ble_eq_true rfl) (jroom (by decide)) rfl (m_within (by omega) (by omega) (by omega) (fun w11 => ?_) (fun w11 => ?_))
        · dsimp only [jpush]
          first
           | (exfalso; omega)
           | (skip
              refine e_if_eq 17 25 dX12_held_14 (by decide) (by decide) rfl (fun h => absurd h (by decide)) (fun _ => ?_)
              refine e_aload_n (i := 0) 18 dX12_held_17 rfl rfl rfl ?_
              refine e_iload_n (i := 1) 19 dX12_held_18 rfl rfl rfl ?_
              refine e_callV 22 mt_yX12_stateOf mv_yX12_stateOf wd_1535 (by decide) dX12_held_19 at_928 jc_12 rfl rfl rfl (Nat.le_of_ble_eq_true rfl) (jroom (by decide)) rfl (m_stateOf (by omega) hg.2.2.2.1 (fun t a b => (hC.tk a b).2.2.2.1) (fun w19 => ?_) (fun w19 => ?_) (fun w19 => ?_) (fun w19 => ?_))
              · (exfalso; (try simp only [tkBad, tkGood] at *); omega)
              · (exfalso; (try simp only [tkBad, tkGood] at *); omega)
              · (exfalso; (try simp only [tkBad, tkGood] at *); omega)
              · dsimp only [jpush]
                first
                 | (exfalso; omega)
                 | (skip
                    refine e_if_eq 25 28 dX12_held_22 (by decide) (by decide) rfl (fun _ => ?_) (fun h => absurd h (by decide))
                    have hg2 := w19.1
                    unfold tkGood at hg2
                    have ed : number.tdiv 100 = number / 100 := Int.tdiv_eq_ediv_of_nonneg (by omega)
                    refine e_iload_n (i := 1) 29 dX12_held_28 rfl rfl rfl ?_
                    refine e_bipush 31 dX12_held_29 (by decide) rfl ?_
                    refine e_idiv 32 dX12_held_31 (by omega) (by decide) (by decide) rfl ?_
                    rw [ed]
                    refine e_iconst 33 dX12_held_32 rfl ?_
                    refine e_isub 34 dX12_held_33 rfl ?_
                    refine e_istore_n (i := 3) (lsn := [(3, _), (0, _), (1, _), (2, _)]) 35 dX12_held_34 rfl (by decide) rfl rfl ?_
                    refine e_iload_n (i := 2) 36 dX12_held_35 rfl rfl rfl ?_
                    refine e_if_ne 39 52 dX12_held_36 (by omega) (by decide) rfl (fun b36 => ?_) (fun b36 => ?_)
                    · first
                       | (exfalso; omega)
                       | (skip
                          refine e_iload_n (i := 2) 53 dX12_held_52 rfl rfl rfl ?_
                          refine e_iconst 54 dX12_held_53 rfl ?_
                          refine e_icmp_ne 57 70 dX12_held_54 (by omega) (by decide) (by decide) rfl (fun b54 => ?_) (fun b54 => ?_)
                          · first
                             | (exfalso; omega)
                             | (skip
                                refine e_aload_n (i := 0) 71 dX12_held_70 rfl rfl rfl ?_
                                refine e_aload_n (i := 0) 72 dX12_held_71 rfl rfl rfl ?_
                                refine e_getr (j := 1) 75 fl_12_13 dX12_held_72 at_928 rfl rfl tp_928_1 rfl ?_
                                refine e_sipush 78 dX12_held_75 (by decide) rfl ?_
                                refine e_iload_n (i := 3) 79 dX12_held_78 rfl rfl rfl ?_
                                refine e_iadd 80 dX12_held_79 rfl ?_
                                refine e_iald 81 dX12_held_80 ar_929 (by omega) (by omega) rfl (fun r80 => ?_)
                                refine e_callV 84 mt_yX12_dueOf mv_yX12_dueOf wd_1547 (by decide) dX12_held_81 at_928 jc_12 rfl rfl rfl (Nat.le_of_ble_eq_true rfl) (jroom (by decide)) rfl (m_dueOf (hC.1.okP (by omega) (by omega)) ?_)
                                dsimp only [jpush]
                                refine e_iret dX12_held_84 ?_
                                first
                                  | (exact ⟨by omega, hI⟩)
                                  | (exfalso; (try simp only [tkBad, tkGood] at *); omega))
                          · first
                             | (exfalso; omega)
                             | (skip
                                refine e_aload_n (i := 0) 58 dX12_held_57 rfl rfl rfl ?_
                                refine e_getr (j := 1) 61 fl_12_13 dX12_held_58 at_928 rfl rfl tp_928_1 rfl ?_
                                refine e_sipush 64 dX12_held_61 (by decide) rfl ?_
                                refine e_iload_n (i := 3) 65 dX12_held_64 rfl rfl rfl ?_
                                refine e_iadd 66 dX12_held_65 rfl ?_
                                refine e_iald 67 dX12_held_66 ar_929 (by omega) (by omega) rfl (fun r66 => ?_)
                                refine e_goto 84 dX12_held_67 (by decide) ?_
                                refine e_iret dX12_held_84 ?_
                                first
                                  | (exact ⟨by omega, hI⟩)
                                  | (exfalso; (try simp only [tkBad, tkGood] at *); omega)))
                    · first
                       | (exfalso; omega)
                       | (skip
                          refine e_aload_n (i := 0) 40 dX12_held_39 rfl rfl rfl ?_
                          refine e_getr (j := 1) 43 fl_12_13 dX12_held_40 at_928 rfl rfl tp_928_1 rfl ?_
                          refine e_sipush 46 dX12_held_43 (by decide) rfl ?_
                          refine e_iload_n (i := 3) 47 dX12_held_46 rfl rfl rfl ?_
                          refine e_iadd 48 dX12_held_47 rfl ?_
                          refine e_iald 49 dX12_held_48 ar_929 (by omega) (by omega) rfl (fun r48 => ?_)
                          refine e_goto 84 dX12_held_49 (by decide) ?_
                          refine e_iret dX12_held_84 ?_
                          first
                            | (exact ⟨by omega, hI⟩)
                            | (exfalso; (try simp only [tkBad, tkGood] at *); omega))))
        · dsimp only [jpush]
          first
           | (exfalso; omega)
           | (skip
              refine e_if_eq 17 25 dX12_held_14 (by decide) (by decide) rfl (fun _ => ?_) (fun h => absurd h (by decide))
              refine e_bipush 27 dX12_held_25 (by decide) rfl ?_
              refine e_iret dX12_held_27 ?_
              first
                | (exact ⟨by omega, hI⟩)
                | (exfalso; (try simp only [tkBad, tkGood] at *); omega))
    · skip
      refine e_bipush 16 dX11_held_14 (by decide) rfl ?_
      refine e_iret dX11_held_16 ?_
      refine jCt_of mt_yX12_held (Nat.le_of_ble_eq_true rfl) (fun X2 => ?_)
      refine e_aload_n (i := 0) 1 dX12_held_0 rfl rfl rfl ?_
      refine e_iconst 2 dX12_held_1 rfl ?_
      refine e_put0 (j := 0) 5 fl_12_1 dX12_held_2 at_928 rfl rfl rfl (by decide) hI.1 rfl ?_
      refine e_iload_n (i := 2) 6 dX12_held_5 rfl rfl rfl ?_
      refine e_i2l 7 dX12_held_6 (by omega) rfl ?_
      refine e_lconst0 8 dX12_held_7 rfl ?_
      refine e_ldc2 (z := (2)) 11 (ix := 243) wd_1546 (by decide) dX12_held_8 rfl ?_
      refine e_callS 14 mt_yX12_within ms_yX12_within wd_1390 (by decide) dX12_held_11 rfl rfl (Nat.le_of_ble_eq_true rfl) (jroom (by decide)) rfl (m_within (by omega) (by omega) (by omega) (fun w11 => ?_) (fun w11 => ?_))
      · dsimp only [jpush]
        first
         | (exfalso; omega)
         | (skip
            refine e_if_eq 17 25 dX12_held_14 (by decide) (by decide) rfl (fun h => absurd h (by decide)) (fun _ => ?_)
            refine e_aload_n (i := 0) 18 dX12_held_17 rfl rfl rfl ?_
            refine e_iload_n (i := 1) 19 dX12_held_18 rfl rfl rfl ?_
            refine e_callV 22 mt_yX12_stateOf mv_yX12_stateOf wd_1535 (by decide) dX12_held_19 at_928 jc_12 rfl rfl rfl (Nat.le_of_ble_eq_true rfl) (jroom (by decide)) rfl (m_stateOf (by omega) hg.2.2.2.1 (fun t a b => (hC.tk a b).2.2.2.1) (fun w19 => ?_) (fun w19 => ?_) (fun w19 => ?_) (fun w19 => ?_))
            · (exfalso; (try simp only [tkBad, tkGood] at *); omega)
            · (exfalso; (try simp only [tkBad, tkGood] at *); omega)
            · (exfalso; (try simp only [tkBad, tkGood] at *); omega)
            · dsimp only [jpush]
              first
               | (exfalso; omega)
               | (skip
                  refine e_if_eq 25 28 dX12_held_22 (by decide) (by decide) rfl (fun _ => ?_) (fun h => absurd h (by decide))
                  have hg2 := w19.1
                  unfold tkGood at hg2
                  have ed : number.tdiv 100 = number / 100 := Int.tdiv_eq_ediv_of_nonneg (by omega)
                  refine e_iload_n (i := 1) 29 dX12_held_28 rfl rfl rfl ?_
                  refine e_bipush 31 dX12_held_29 (by decide) rfl ?_
                  refine e_idiv 32 dX12_held_31 (by omega) (by decide) (by decide) rfl ?_
                  rw [ed]
                  refine e_iconst 33 dX12_held_32 rfl ?_
                  refine e_isub 34 dX12_held_33 rfl ?_
                  refine e_istore_n (i := 3) (lsn := [(3, _), (0, _), (1, _), (2, _)]) 35 dX12_held_34 rfl (by decide) rfl rfl ?_
                  refine e_iload_n (i := 2) 36 dX12_held_35 rfl rfl rfl ?_
                  refine e_if_ne 39 52 dX12_held_36 (by omega) (by decide) rfl (fun b36 => ?_) (fun b36 => ?_)
                  · first
                     | (exfalso; omega)
                     | (skip
                        refine e_iload_n (i := 2) 53 dX12_held_52 rfl rfl rfl ?_
                        refine e_iconst 54 dX12_held_53 rfl ?_
                        refine e_icmp_ne 57 70 dX12_held_54 (by omega) (by decide) (by decide) rfl (fun b54 => ?_) (fun b54 => ?_)
                        · first
                           | (exfalso; omega)
                           | (skip
                              refine e_aload_n (i := 0) 71 dX12_held_70 rfl rfl rfl ?_
                              refine e_aload_n (i := 0) 72 dX12_held_71 rfl rfl rfl ?_
                              refine e_getr (j := 1) 75 fl_12_13 dX12_held_72 at_928 rfl rfl tp_928_1 rfl ?_
                              refine e_sipush 78 dX12_held_75 (by decide) rfl ?_
                              refine e_iload_n (i := 3) 79 dX12_held_78 rfl rfl rfl ?_
                              refine e_iadd 80 dX12_held_79 rfl ?_
                              refine e_iald 81 dX12_held_80 ar_929 (by omega) (by omega) rfl (fun r80 => ?_)
                              refine e_callV 84 mt_yX12_dueOf mv_yX12_dueOf wd_1547 (by decide) dX12_held_81 at_928 jc_12 rfl rfl rfl (Nat.le_of_ble_eq_true rfl) (jroom (by decide)) rfl (m_dueOf (hC.1.okP (by omega) (by omega)) ?_)
                              dsimp only [jpush]
                              refine e_iret dX12_held_84 ?_
                              first
                                | (exact ⟨by omega, hI⟩)
                                | (exfalso; (try simp only [tkBad, tkGood] at *); omega))
                        · first
                           | (exfalso; omega)
                           | (skip
                              refine e_aload_n (i := 0) 58 dX12_held_57 rfl rfl rfl ?_
                              refine e_getr (j := 1) 61 fl_12_13 dX12_held_58 at_928 rfl rfl tp_928_1 rfl ?_
                              refine e_sipush 64 dX12_held_61 (by decide) rfl ?_
                              refine e_iload_n (i := 3) 65 dX12_held_64 rfl rfl rfl ?_
                              refine e_iadd 66 dX12_held_65 rfl ?_
                              refine e_iald 67 dX12_held_66 ar_929 (by omega) (by omega) rfl (fun r66 => ?_)
                              refine e_goto 84 dX12_held_67 (by decide) ?_
                              refine e_iret dX12_held_84 ?_
                              first
                                | (exact ⟨by omega, hI⟩)
                                | (exfalso; (try simp only [tkBad, tkGood] at *); omega)))
                  · first
                     | (exfalso; omega)
                     | (skip
                        refine e_aload_n (i := 0) 40 dX12_held_39 rfl rfl rfl ?_
                        refine e_getr (j := 1) 43 fl_12_13 dX12_held_40 at_928 rfl rfl tp_928_1 rfl ?_
                        refine e_sipush 46 dX12_held_43 (by decide) rfl ?_
                        refine e_iload_n (i := 3) 47 dX12_held_46 rfl rfl rfl ?_
                        refine e_iadd 48 dX12_held_47 rfl ?_
                        refine e_iald 49 dX12_held_48 ar_929 (by omega) (by omega) rfl (fun r48 => ?_)
                        refine e_goto 84 dX12_held_49 (by decide) ?_
                        refine e_iret dX12_held_84 ?_
                        first
                          | (exact ⟨by omega, hI⟩)
                          | (exfalso; (try simp only [tkBad, tkGood] at *); omega))))
      · dsimp only [jpush]
        first
         | (exfalso; omega)
         | (skip
            refine e_if_eq 17 25 dX12_held_14 (by decide) (by decide) rfl (fun _ => ?_) (fun h => absurd h (by decide))
            refine e_bipush 27 dX12_held_25 (by decide) rfl ?_
            refine e_iret dX12_held_27 ?_
            first
              | (exact ⟨by omega, hI⟩)
              | (exfalso; (try simp only [tkBad, tkGood] at *); omega))
  · dsimp only [jpush]
    refine e_istore_n (i := 3) (lsn := [(3, _), (0, _), (1, _), (2, _)]) 9 dX11_held_8 rfl (by decide) rfl rfl ?_
    refine e_iload_n (i := 3) 10 dX11_held_9 rfl rfl rfl ?_
    refine e_iconst 11 dX11_held_10 rfl ?_
    refine e_icmp_ne 14 17 dX11_held_11 (by decide) (by decide) (by decide) rfl (fun h => absurd h (by decide)) (fun _ => ?_)
    refine e_bipush 16 dX11_held_14 (by decide) rfl ?_
    refine e_iret dX11_held_16 ?_
    refine jCt_of mt_yX12_held (Nat.le_of_ble_eq_true rfl) (fun X2 => ?_)
    refine e_aload_n (i := 0) 1 dX12_held_0 rfl rfl rfl ?_
    refine e_iconst 2 dX12_held_1 rfl ?_
    refine e_put0 (j := 0) 5 fl_12_1 dX12_held_2 at_928 rfl rfl rfl (by decide) hI.1 rfl ?_
    refine e_iload_n (i := 2) 6 dX12_held_5 rfl rfl rfl ?_
    refine e_i2l 7 dX12_held_6 (by omega) rfl ?_
    refine e_lconst0 8 dX12_held_7 rfl ?_
    refine e_ldc2 (z := (2)) 11 (ix := 243) wd_1546 (by decide) dX12_held_8 rfl ?_
    refine e_callS 14 mt_yX12_within ms_yX12_within wd_1390 (by decide) dX12_held_11 rfl rfl (Nat.le_of_ble_eq_true rfl) (jroom (by decide)) rfl (m_within (by omega) (by omega) (by omega) (fun w11 => ?_) (fun w11 => ?_))
    · dsimp only [jpush]
      first
       | (exfalso; omega)
       | (skip
          refine e_if_eq 17 25 dX12_held_14 (by decide) (by decide) rfl (fun h => absurd h (by decide)) (fun _ => ?_)
          refine e_aload_n (i := 0) 18 dX12_held_17 rfl rfl rfl ?_
          refine e_iload_n (i := 1) 19 dX12_held_18 rfl rfl rfl ?_
          refine e_callV 22 mt_yX12_stateOf mv_yX12_stateOf wd_1535 (by decide) dX12_held_19 at_928 jc_12 rfl rfl rfl (Nat.le_of_ble_eq_true rfl) (jroom (by decide)) rfl (m_stateOf (by omega) hg.2.2.2.1 (fun t a b => (hC.tk a b).2.2.2.1) (fun w19 => ?_) (fun w19 => ?_) (fun w19 => ?_) (fun w19 => ?_))
          · dsimp only [jpush]
            first
             | (exfalso; omega)
             | (skip
                refine e_if_eq 25 28 dX12_held_22 (by decide) (by decide) rfl (fun h => absurd h (by decide)) (fun _ => ?_)
                refine e_bipush 27 dX12_held_25 (by decide) rfl ?_
                refine e_iret dX12_held_27 ?_
                first
                  | (exact ⟨by omega, hI⟩)
                  | (exfalso; (try simp only [tkBad, tkGood] at *); omega))
          · dsimp only [jpush]
            first
             | (exfalso; omega)
             | (skip
                refine e_if_eq 25 28 dX12_held_22 (by decide) (by decide) rfl (fun h => absurd h (by decide)) (fun _ => ?_)
                refine e_bipush 27 dX12_held_25 (by decide) rfl ?_
                refine e_iret dX12_held_27 ?_
                first
                  | (exact ⟨by omega, hI⟩)
                  | (exfalso; (try simp only [tkBad, tkGood] at *); omega))
          · dsimp only [jpush]
            first
             | (exfalso; omega)
             | (skip
                refine e_if_eq 25 28 dX12_held_22 (by decide) (by decide) rfl (fun h => absurd h (by decide)) (fun _ => ?_)
                refine e_bipush 27 dX12_held_25 (by decide) rfl ?_
                refine e_iret dX12_held_27 ?_
                first
                  | (exact ⟨by omega, hI⟩)
                  | (exfalso; (try simp only [tkBad, tkGood] at *); omega))
          · (exfalso; (try simp only [tkBad, tkGood] at *); omega))
    · dsimp only [jpush]
      first
       | (exfalso; omega)
       | (skip
          refine e_if_eq 17 25 dX12_held_14 (by decide) (by decide) rfl (fun _ => ?_) (fun h => absurd h (by decide))
          refine e_bipush 27 dX12_held_25 (by decide) rfl ?_
          refine e_iret dX12_held_27 ?_
          first
            | (exact ⟨by omega, hI⟩)
            | (exfalso; (try simp only [tkBad, tkGood] at *); omega))

theorem p_of {M : jM} (hI : Inv M) {pledge : Int} (hpledge : -2147483648 ≤ pledge ∧ pledge ≤ 2147483647) {what : Int} (hwhat : -2147483648 ≤ what ∧ what ≤ 2147483647) : jCt yX11_of cX11_of 4 (some .int) 3 [jR 0, jI pledge, jI what] M (fun z M1 => jCt yX12_of cX12_of 3 (some .int) 3 [jR 928, jI pledge, jI what] M1 (fun z2 M2 => z = z2 ∧ Inv M2)) := by
  have hC := hI.cr
  have hn := hC.cnt
  have hg := hC.rng
  refine jCt_of mt_yX11_of (Nat.le_of_ble_eq_true rfl) (fun X => ?_)
  refine e_aload_n (i := 0) 1 dX11_of_0 rfl rfl rfl ?_
  refine e_getr (j := 0) 4 fl_11_10 dX11_of_1 at_0 rfl rfl tp_0_0 rfl ?_
  refine e_iload_n (i := 1) 5 dX11_of_4 rfl rfl rfl ?_
  refine e_callV 8 mt_yX8_hasPledge mv_yX8_hasPledge wd_854 (by decide) dX11_of_5 at_1 jc_8 rfl rfl rfl (Nat.le_of_ble_eq_true rfl) (jroom (by decide)) rfl (c_hasPledge (by omega) (fun w5 => ?_) (fun w5 => ?_))
  · dsimp only [jpush]
    refine e_if_ne 11 15 dX11_of_8 (by decide) (by decide) rfl (fun _ => ?_) (fun h => absurd h (by decide))
    refine e_aload_n (i := 0) 16 dX11_of_15 rfl rfl rfl ?_
    refine e_getr (j := 0) 19 fl_11_10 dX11_of_16 at_0 rfl rfl tp_0_0 rfl ?_
    refine e_getr (j := 9) 22 fl_11_200 dX11_of_19 at_1 rfl rfl tp_1_9 rfl ?_
    refine e_iload_n (i := 1) 23 dX11_of_22 rfl rfl rfl ?_
    refine e_aald 24 dX11_of_23 ar_18 (by decide) (by omega) (by omega) (tp_pledge (by omega) (by omega)) rfl ?_
    refine e_astore_n (i := 3) (lsn := [(3, _), (0, _), (1, _), (2, _)]) 25 dX11_of_24 rfl (by decide) rfl rfl ?_
    refine e_iload_n (i := 2) 26 dX11_of_25 rfl rfl rfl ?_
    refine e_tsw 141 dX11_of_26 (by omega) (by decide) (fun c0 hc0 hz0 => ?_) (fun b26 => ?_)
    · have hcc : c0 = 0 ∨ c0 = 1 ∨ c0 = 2 ∨ c0 = 3 ∨ c0 = 4 ∨ c0 = 5 ∨ c0 = 6 ∨ c0 = 7 ∨ c0 = 8 := by omega
      rcases hcc with b26 | b26 | b26 | b26 | b26 | b26 | b26 | b26 | b26
      · subst b26
        refine ⟨_, 76, rfl, by decide, ?_⟩
        refine e_aload_n (i := 3) 77 dX11_of_76 rfl rfl rfl ?_
        refine e_geti (j := 0) 80 fl_11_256 dX11_of_77 (at_pledge (by omega) (by omega)) (by decide) rfl rfl (fun r77 => ?_)
        refine e_iret dX11_of_80 ?_
        refine jCt_of mt_yX12_of (Nat.le_of_ble_eq_true rfl) (fun X2 => ?_)
        refine e_aload_n (i := 0) 1 dX12_of_0 rfl rfl rfl ?_
        refine e_iconst 2 dX12_of_1 rfl ?_
        refine e_put0 (j := 0) 5 fl_12_1 dX12_of_2 at_928 rfl rfl rfl (by decide) hI.1 rfl ?_
        refine e_aload_n (i := 0) 6 dX12_of_5 rfl rfl rfl ?_
        refine e_iload_n (i := 1) 7 dX12_of_6 rfl rfl rfl ?_
        refine e_callV 10 mt_yX12_isPledge mv_yX12_isPledge wd_1579 (by decide) dX12_of_7 at_928 jc_12 rfl rfl rfl (Nat.le_of_ble_eq_true rfl) (jroom (by decide)) rfl (m_isPledge (by omega) (fun w7 => ?_) (fun w7 => ?_))
        · dsimp only [jpush]
          first
           | (exfalso; omega)
           | (skip
              refine e_if_ne 13 17 dX12_of_10 (by decide) (by decide) rfl (fun _ => ?_) (fun h => absurd h (by decide))
              refine e_iload_n (i := 2) 18 dX12_of_17 rfl rfl rfl ?_
              refine e_tsw 179 dX12_of_18 (by omega) (by decide) (fun c0 hc0 hz0 => ?_) (fun b18 => ?_)
              · have hcc : c0 = 0 ∨ c0 = 1 ∨ c0 = 2 ∨ c0 = 3 ∨ c0 = 4 ∨ c0 = 5 ∨ c0 = 6 ∨ c0 = 7 ∨ c0 = 8 := by omega
                rcases hcc with b18 | b18 | b18 | b18 | b18 | b18 | b18 | b18 | b18
                · subst b18
                  refine ⟨_, 68, rfl, by decide, ?_⟩
                  first
                   | (exfalso; omega)
                   | (skip
                      refine e_aload_n (i := 0) 69 dX12_of_68 rfl rfl rfl ?_
                      refine e_getr (j := 1) 72 fl_12_13 dX12_of_69 at_928 rfl rfl tp_928_1 rfl ?_
                      refine e_sipush 75 dX12_of_72 (by decide) rfl ?_
                      refine e_iload_n (i := 1) 76 dX12_of_75 rfl rfl rfl ?_
                      refine e_iadd 77 dX12_of_76 rfl ?_
                      refine e_iald 78 dX12_of_77 ar_929 (by omega) (by omega) rfl (fun r77 => ?_)
                      refine e_iret dX12_of_78 ?_
                      first
                        | exact ⟨by omega, hI⟩
                        | (have hq := hC.pl (p := pledge) (by omega) (by omega); exact ⟨by omega, hI⟩))
                · subst b18
                  refine ⟨_, 79, rfl, by decide, ?_⟩
                  first
                   | (exfalso; omega)
                   | (skip
                      refine e_aload_n (i := 0) 80 dX12_of_79 rfl rfl rfl ?_
                      refine e_getr (j := 1) 83 fl_12_13 dX12_of_80 at_928 rfl rfl tp_928_1 rfl ?_
                      refine e_sipush 86 dX12_of_83 (by decide) rfl ?_
                      refine e_iload_n (i := 1) 87 dX12_of_86 rfl rfl rfl ?_
                      refine e_iadd 88 dX12_of_87 rfl ?_
                      refine e_iald 89 dX12_of_88 ar_929 (by omega) (by omega) rfl (fun r88 => ?_)
                      refine e_iret dX12_of_89 ?_
                      first
                        | exact ⟨by omega, hI⟩
                        | (have hq := hC.pl (p := pledge) (by omega) (by omega); exact ⟨by omega, hI⟩))
                · subst b18
                  refine ⟨_, 90, rfl, by decide, ?_⟩
                  first
                   | (exfalso; omega)
                   | (skip
                      refine e_aload_n (i := 0) 91 dX12_of_90 rfl rfl rfl ?_
                      refine e_getr (j := 1) 94 fl_12_13 dX12_of_91 at_928 rfl rfl tp_928_1 rfl ?_
                      refine e_sipush 97 dX12_of_94 (by decide) rfl ?_
                      refine e_iload_n (i := 1) 98 dX12_of_97 rfl rfl rfl ?_
                      refine e_iadd 99 dX12_of_98 rfl ?_
                      refine e_iald 100 dX12_of_99 ar_929 (by omega) (by omega) rfl (fun r99 => ?_)
                      refine e_iret dX12_of_100 ?_
                      first
                        | exact ⟨by omega, hI⟩
                        | (have hq := hC.pl (p := pledge) (by omega) (by omega); exact ⟨by omega, hI⟩))
                · subst b18
                  refine ⟨_, 101, rfl, by decide, ?_⟩
                  first
                   | (exfalso; omega)
                   | (skip
                      refine e_aload_n (i := 0) 102 dX12_of_101 rfl rfl rfl ?_
                      refine e_getr (j := 1) 105 fl_12_13 dX12_of_102 at_928 rfl rfl tp_928_1 rfl ?_
                      refine e_sipush 108 dX12_of_105 (by decide) rfl ?_
                      refine e_iload_n (i := 1) 109 dX12_of_108 rfl rfl rfl ?_
                      refine e_iadd 110 dX12_of_109 rfl ?_
                      refine e_iald 111 dX12_of_110 ar_929 (by omega) (by omega) rfl (fun r110 => ?_)
                      refine e_iret dX12_of_111 ?_
                      first
                        | exact ⟨by omega, hI⟩
                        | (have hq := hC.pl (p := pledge) (by omega) (by omega); exact ⟨by omega, hI⟩))
                · subst b18
                  refine ⟨_, 112, rfl, by decide, ?_⟩
                  first
                   | (exfalso; omega)
                   | (skip
                      refine e_aload_n (i := 0) 113 dX12_of_112 rfl rfl rfl ?_
                      refine e_getr (j := 1) 116 fl_12_13 dX12_of_113 at_928 rfl rfl tp_928_1 rfl ?_
                      refine e_sipush 119 dX12_of_116 (by decide) rfl ?_
                      refine e_iload_n (i := 1) 120 dX12_of_119 rfl rfl rfl ?_
                      refine e_iadd 121 dX12_of_120 rfl ?_
                      refine e_iald 122 dX12_of_121 ar_929 (by omega) (by omega) rfl (fun r121 => ?_)
                      refine e_iret dX12_of_122 ?_
                      first
                        | exact ⟨by omega, hI⟩
                        | (have hq := hC.pl (p := pledge) (by omega) (by omega); exact ⟨by omega, hI⟩))
                · subst b18
                  refine ⟨_, 123, rfl, by decide, ?_⟩
                  first
                   | (exfalso; omega)
                   | (skip
                      refine e_aload_n (i := 0) 124 dX12_of_123 rfl rfl rfl ?_
                      refine e_getr (j := 1) 127 fl_12_13 dX12_of_124 at_928 rfl rfl tp_928_1 rfl ?_
                      refine e_sipush 130 dX12_of_127 (by decide) rfl ?_
                      refine e_iload_n (i := 1) 131 dX12_of_130 rfl rfl rfl ?_
                      refine e_iadd 132 dX12_of_131 rfl ?_
                      refine e_iald 133 dX12_of_132 ar_929 (by omega) (by omega) rfl (fun r132 => ?_)
                      refine e_iret dX12_of_133 ?_
                      first
                        | exact ⟨by omega, hI⟩
                        | (have hq := hC.pl (p := pledge) (by omega) (by omega); exact ⟨by omega, hI⟩))
                · subst b18
                  refine ⟨_, 134, rfl, by decide, ?_⟩
                  first
                   | (exfalso; omega)
                   | (skip
                      refine e_aload_n (i := 0) 135 dX12_of_134 rfl rfl rfl ?_
                      refine e_iload_n (i := 1) 136 dX12_of_135 rfl rfl rfl ?_
                      refine e_callV 139 mt_yX12_isHeld mv_yX12_isHeld wd_1559 (by decide) dX12_of_136 at_928 jc_12 rfl rfl rfl (Nat.le_of_ble_eq_true rfl) (jroom (by decide)) rfl (m_isHeld (by omega) (fun w136 => ?_) (fun w136 => ?_))
                      · dsimp only [jpush]
                        first
                         | (exfalso; omega)
                         | (skip
                            refine e_if_eq 142 146 dX12_of_139 (by decide) (by decide) rfl (fun h => absurd h (by decide)) (fun _ => ?_)
                            refine e_iconst 143 dX12_of_142 rfl ?_
                            refine e_goto 147 dX12_of_143 (by decide) ?_
                            refine e_iret dX12_of_147 ?_
                            first
                              | exact ⟨by omega, hI⟩
                              | (have hq := hC.pl (p := pledge) (by omega) (by omega); exact ⟨by omega, hI⟩))
                      · dsimp only [jpush]
                        first
                         | (exfalso; omega)
                         | (skip
                            refine e_if_eq 142 146 dX12_of_139 (by decide) (by decide) rfl (fun _ => ?_) (fun h => absurd h (by decide))
                            refine e_iconst 147 dX12_of_146 rfl ?_
                            refine e_iret dX12_of_147 ?_
                            first
                              | exact ⟨by omega, hI⟩
                              | (have hq := hC.pl (p := pledge) (by omega) (by omega); exact ⟨by omega, hI⟩)))
                · subst b18
                  refine ⟨_, 148, rfl, by decide, ?_⟩
                  first
                   | (exfalso; omega)
                   | (skip
                      refine e_aload_n (i := 0) 149 dX12_of_148 rfl rfl rfl ?_
                      refine e_iload_n (i := 1) 150 dX12_of_149 rfl rfl rfl ?_
                      refine e_callV 153 mt_yX12_mothedLow mv_yX12_mothedLow wd_1591 (by decide) dX12_of_150 at_928 jc_12 rfl rfl rfl (Nat.le_of_ble_eq_true rfl) (jroom (by decide)) rfl (m_mothedLow (hC.1.okM (by omega) (by omega)) (hC.1.low (by omega) (by omega)) ?_)
                      dsimp only [jpush]
                      refine e_iret dX12_of_153 ?_
                      first
                        | exact ⟨by omega, hI⟩
                        | (have hq := hC.pl (p := pledge) (by omega) (by omega); exact ⟨by omega, hI⟩))
                · subst b18
                  refine ⟨_, 154, rfl, by decide, ?_⟩
                  first
                   | (exfalso; omega)
                   | (skip
                      have hpr := hC.plr (p := pledge) (by omega) (by omega)
                      refine e_aload_n (i := 0) 155 dX12_of_154 rfl rfl rfl ?_
                      refine e_iload_n (i := 1) 156 dX12_of_155 rfl rfl rfl ?_
                      refine e_aload_n (i := 0) 157 dX12_of_156 rfl rfl rfl ?_
                      refine e_getr (j := 1) 160 fl_12_13 dX12_of_157 at_928 rfl rfl tp_928_1 rfl ?_
                      refine e_sipush 163 dX12_of_160 (by decide) rfl ?_
                      refine e_aload_n (i := 0) 164 dX12_of_163 rfl rfl rfl ?_
                      refine e_getr (j := 1) 167 fl_12_13 dX12_of_164 at_928 rfl rfl tp_928_1 rfl ?_
                      refine e_sipush 170 dX12_of_167 (by decide) rfl ?_
                      refine e_iload_n (i := 1) 171 dX12_of_170 rfl rfl rfl ?_
                      refine e_iadd 172 dX12_of_171 rfl ?_
                      refine e_iald 173 dX12_of_172 ar_929 (by omega) (by omega) rfl (fun r172 => ?_)
                      refine e_iadd 174 dX12_of_173 rfl ?_
                      refine e_iald 175 dX12_of_174 ar_929 (by omega) (by omega) rfl (fun r174 => ?_)
                      refine e_callV 178 mt_yX12_mothed mv_yX12_mothed wd_1595 (by decide) dX12_of_175 at_928 jc_12 rfl rfl rfl (Nat.le_of_ble_eq_true rfl) (jroom (by decide)) rfl (m_mothed (hC.1.okM (by omega) (by omega)) (hC.1.high (by omega) (by omega)) ?_)
                      dsimp only [jpush]
                      refine e_iret dX12_of_178 ?_
                      first
                        | exact ⟨by omega, hI⟩
                        | (have hq := hC.pl (p := pledge) (by omega) (by omega); exact ⟨by omega, hI⟩))
              · skip
                refine e_sipush 182 dX12_of_179 (by decide) rfl ?_
                refine e_iret dX12_of_182 ?_
                first
                  | exact ⟨by omega, hI⟩
                  | (have hq := hC.pl (p := pledge) (by omega) (by omega); exact ⟨by omega, hI⟩))
        · dsimp only [jpush]
          first
           | (exfalso; omega)
           | (skip
              refine e_if_ne 13 17 dX12_of_10 (by decide) (by decide) rfl (fun h => absurd h (by decide)) (fun _ => ?_)
              refine e_sipush 16 dX12_of_13 (by decide) rfl ?_
              refine e_iret dX12_of_16 ?_
              first
                | exact ⟨by omega, hI⟩
                | (have hq := hC.pl (p := pledge) (by omega) (by omega); exact ⟨by omega, hI⟩))
      · subst b26
        refine ⟨_, 81, rfl, by decide, ?_⟩
        refine e_aload_n (i := 3) 82 dX11_of_81 rfl rfl rfl ?_
        refine e_geti (j := 1) 85 fl_11_250 dX11_of_82 (at_pledge (by omega) (by omega)) (by decide) rfl rfl (fun r82 => ?_)
        refine e_iret dX11_of_85 ?_
        refine jCt_of mt_yX12_of (Nat.le_of_ble_eq_true rfl) (fun X2 => ?_)
        refine e_aload_n (i := 0) 1 dX12_of_0 rfl rfl rfl ?_
        refine e_iconst 2 dX12_of_1 rfl ?_
        refine e_put0 (j := 0) 5 fl_12_1 dX12_of_2 at_928 rfl rfl rfl (by decide) hI.1 rfl ?_
        refine e_aload_n (i := 0) 6 dX12_of_5 rfl rfl rfl ?_
        refine e_iload_n (i := 1) 7 dX12_of_6 rfl rfl rfl ?_
        refine e_callV 10 mt_yX12_isPledge mv_yX12_isPledge wd_1579 (by decide) dX12_of_7 at_928 jc_12 rfl rfl rfl (Nat.le_of_ble_eq_true rfl) (jroom (by decide)) rfl (m_isPledge (by omega) (fun w7 => ?_) (fun w7 => ?_))
        · dsimp only [jpush]
          first
           | (exfalso; omega)
           | (skip
              refine e_if_ne 13 17 dX12_of_10 (by decide) (by decide) rfl (fun _ => ?_) (fun h => absurd h (by decide))
              refine e_iload_n (i := 2) 18 dX12_of_17 rfl rfl rfl ?_
              refine e_tsw 179 dX12_of_18 (by omega) (by decide) (fun c0 hc0 hz0 => ?_) (fun b18 => ?_)
              · have hcc : c0 = 0 ∨ c0 = 1 ∨ c0 = 2 ∨ c0 = 3 ∨ c0 = 4 ∨ c0 = 5 ∨ c0 = 6 ∨ c0 = 7 ∨ c0 = 8 := by omega
                rcases hcc with b18 | b18 | b18 | b18 | b18 | b18 | b18 | b18 | b18
                · subst b18
                  refine ⟨_, 68, rfl, by decide, ?_⟩
                  first
                   | (exfalso; omega)
                   | (skip
                      refine e_aload_n (i := 0) 69 dX12_of_68 rfl rfl rfl ?_
                      refine e_getr (j := 1) 72 fl_12_13 dX12_of_69 at_928 rfl rfl tp_928_1 rfl ?_
                      refine e_sipush 75 dX12_of_72 (by decide) rfl ?_
                      refine e_iload_n (i := 1) 76 dX12_of_75 rfl rfl rfl ?_
                      refine e_iadd 77 dX12_of_76 rfl ?_
                      refine e_iald 78 dX12_of_77 ar_929 (by omega) (by omega) rfl (fun r77 => ?_)
                      refine e_iret dX12_of_78 ?_
                      first
                        | exact ⟨by omega, hI⟩
                        | (have hq := hC.pl (p := pledge) (by omega) (by omega); exact ⟨by omega, hI⟩))
                · subst b18
                  refine ⟨_, 79, rfl, by decide, ?_⟩
                  first
                   | (exfalso; omega)
                   | (skip
                      refine e_aload_n (i := 0) 80 dX12_of_79 rfl rfl rfl ?_
                      refine e_getr (j := 1) 83 fl_12_13 dX12_of_80 at_928 rfl rfl tp_928_1 rfl ?_
                      refine e_sipush 86 dX12_of_83 (by decide) rfl ?_
                      refine e_iload_n (i := 1) 87 dX12_of_86 rfl rfl rfl ?_
                      refine e_iadd 88 dX12_of_87 rfl ?_
                      refine e_iald 89 dX12_of_88 ar_929 (by omega) (by omega) rfl (fun r88 => ?_)
                      refine e_iret dX12_of_89 ?_
                      first
                        | exact ⟨by omega, hI⟩
                        | (have hq := hC.pl (p := pledge) (by omega) (by omega); exact ⟨by omega, hI⟩))
                · subst b18
                  refine ⟨_, 90, rfl, by decide, ?_⟩
                  first
                   | (exfalso; omega)
                   | (skip
                      refine e_aload_n (i := 0) 91 dX12_of_90 rfl rfl rfl ?_
                      refine e_getr (j := 1) 94 fl_12_13 dX12_of_91 at_928 rfl rfl tp_928_1 rfl ?_
                      refine e_sipush 97 dX12_of_94 (by decide) rfl ?_
                      refine e_iload_n (i := 1) 98 dX12_of_97 rfl rfl rfl ?_
                      refine e_iadd 99 dX12_of_98 rfl ?_
                      refine e_iald 100 dX12_of_99 ar_929 (by omega) (by omega) rfl (fun r99 => ?_)
                      refine e_iret dX12_of_100 ?_
                      first
                        | exact ⟨by omega, hI⟩
                        | (have hq := hC.pl (p := pledge) (by omega) (by omega); exact ⟨by omega, hI⟩))
                · subst b18
                  refine ⟨_, 101, rfl, by decide, ?_⟩
                  first
                   | (exfalso; omega)
                   | (skip
                      refine e_aload_n (i := 0) 102 dX12_of_101 rfl rfl rfl ?_
                      refine e_getr (j := 1) 105 fl_12_13 dX12_of_102 at_928 rfl rfl tp_928_1 rfl ?_
                      refine e_sipush 108 dX12_of_105 (by decide) rfl ?_
                      refine e_iload_n (i := 1) 109 dX12_of_108 rfl rfl rfl ?_
                      refine e_iadd 110 dX12_of_109 rfl ?_
                      refine e_iald 111 dX12_of_110 ar_929 (by omega) (by omega) rfl (fun r110 => ?_)
                      refine e_iret dX12_of_111 ?_
                      first
                        | exact ⟨by omega, hI⟩
                        | (have hq := hC.pl (p := pledge) (by omega) (by omega); exact ⟨by omega, hI⟩))
                · subst b18
                  refine ⟨_, 112, rfl, by decide, ?_⟩
                  first
                   | (exfalso; omega)
                   | (skip
                      refine e_aload_n (i := 0) 113 dX12_of_112 rfl rfl rfl ?_
                      refine e_getr (j := 1) 116 fl_12_13 dX12_of_113 at_928 rfl rfl tp_928_1 rfl ?_
                      refine e_sipush 119 dX12_of_116 (by decide) rfl ?_
                      refine e_iload_n (i := 1) 120 dX12_of_119 rfl rfl rfl ?_
                      refine e_iadd 121 dX12_of_120 rfl ?_
                      refine e_iald 122 dX12_of_121 ar_929 (by omega) (by omega) rfl (fun r121 => ?_)
                      refine e_iret dX12_of_122 ?_
                      first
                        | exact ⟨by omega, hI⟩
                        | (have hq := hC.pl (p := pledge) (by omega) (by omega); exact ⟨by omega, hI⟩))
                · subst b18
                  refine ⟨_, 123, rfl, by decide, ?_⟩
                  first
                   | (exfalso; omega)
                   | (skip
                      refine e_aload_n (i := 0) 124 dX12_of_123 rfl rfl rfl ?_
                      refine e_getr (j := 1) 127 fl_12_13 dX12_of_124 at_928 rfl rfl tp_928_1 rfl ?_
                      refine e_sipush 130 dX12_of_127 (by decide) rfl ?_
                      refine e_iload_n (i := 1) 131 dX12_of_130 rfl rfl rfl ?_
                      refine e_iadd 132 dX12_of_131 rfl ?_
                      refine e_iald 133 dX12_of_132 ar_929 (by omega) (by omega) rfl (fun r132 => ?_)
                      refine e_iret dX12_of_133 ?_
                      first
                        | exact ⟨by omega, hI⟩
                        | (have hq := hC.pl (p := pledge) (by omega) (by omega); exact ⟨by omega, hI⟩))
                · subst b18
                  refine ⟨_, 134, rfl, by decide, ?_⟩
                  first
                   | (exfalso; omega)
                   | (skip
                      refine e_aload_n (i := 0) 135 dX12_of_134 rfl rfl rfl ?_
                      refine e_iload_n (i := 1) 136 dX12_of_135 rfl rfl rfl ?_
                      refine e_callV 139 mt_yX12_isHeld mv_yX12_isHeld wd_1559 (by decide) dX12_of_136 at_928 jc_12 rfl rfl rfl (Nat.le_of_ble_eq_true rfl) (jroom (by decide)) rfl (m_isHeld (by omega) (fun w136 => ?_) (fun w136 => ?_))
                      · dsimp only [jpush]
                        first
                         | (exfalso; omega)
                         | (skip
                            refine e_if_eq 142 146 dX12_of_139 (by decide) (by decide) rfl (fun h => absurd h (by decide)) (fun _ => ?_)
                            refine e_iconst 143 dX12_of_142 rfl ?_
                            refine e_goto 147 dX12_of_143 (by decide) ?_
                            refine e_iret dX12_of_147 ?_
                            first
                              | exact ⟨by omega, hI⟩
                              | (have hq := hC.pl (p := pledge) (by omega) (by omega); exact ⟨by omega, hI⟩))
                      · dsimp only [jpush]
                        first
                         | (exfalso; omega)
                         | (skip
                            refine e_if_eq 142 146 dX12_of_139 (by decide) (by decide) rfl (fun _ => ?_) (fun h => absurd h (by decide))
                            refine e_iconst 147 dX12_of_146 rfl ?_
                            refine e_iret dX12_of_147 ?_
                            first
                              | exact ⟨by omega, hI⟩
                              | (have hq := hC.pl (p := pledge) (by omega) (by omega); exact ⟨by omega, hI⟩)))
                · subst b18
                  refine ⟨_, 148, rfl, by decide, ?_⟩
                  first
                   | (exfalso; omega)
                   | (skip
                      refine e_aload_n (i := 0) 149 dX12_of_148 rfl rfl rfl ?_
                      refine e_iload_n (i := 1) 150 dX12_of_149 rfl rfl rfl ?_
                      refine e_callV 153 mt_yX12_mothedLow mv_yX12_mothedLow wd_1591 (by decide) dX12_of_150 at_928 jc_12 rfl rfl rfl (Nat.le_of_ble_eq_true rfl) (jroom (by decide)) rfl (m_mothedLow (hC.1.okM (by omega) (by omega)) (hC.1.low (by omega) (by omega)) ?_)
                      dsimp only [jpush]
                      refine e_iret dX12_of_153 ?_
                      first
                        | exact ⟨by omega, hI⟩
                        | (have hq := hC.pl (p := pledge) (by omega) (by omega); exact ⟨by omega, hI⟩))
                · subst b18
                  refine ⟨_, 154, rfl, by decide, ?_⟩
                  first
                   | (exfalso; omega)
                   | (skip
                      have hpr := hC.plr (p := pledge) (by omega) (by omega)
                      refine e_aload_n (i := 0) 155 dX12_of_154 rfl rfl rfl ?_
                      refine e_iload_n (i := 1) 156 dX12_of_155 rfl rfl rfl ?_
                      refine e_aload_n (i := 0) 157 dX12_of_156 rfl rfl rfl ?_
                      refine e_getr (j := 1) 160 fl_12_13 dX12_of_157 at_928 rfl rfl tp_928_1 rfl ?_
                      refine e_sipush 163 dX12_of_160 (by decide) rfl ?_
                      refine e_aload_n (i := 0) 164 dX12_of_163 rfl rfl rfl ?_
                      refine e_getr (j := 1) 167 fl_12_13 dX12_of_164 at_928 rfl rfl tp_928_1 rfl ?_
                      refine e_sipush 170 dX12_of_167 (by decide) rfl ?_
                      refine e_iload_n (i := 1) 171 dX12_of_170 rfl rfl rfl ?_
                      refine e_iadd 172 dX12_of_171 rfl ?_
                      refine e_iald 173 dX12_of_172 ar_929 (by omega) (by omega) rfl (fun r172 => ?_)
                      refine e_iadd 174 dX12_of_173 rfl ?_
                      refine e_iald 175 dX12_of_174 ar_929 (by omega) (by omega) rfl (fun r174 => ?_)
                      refine e_callV 178 mt_yX12_mothed mv_yX12_mothed wd_1595 (by decide) dX12_of_175 at_928 jc_12 rfl rfl rfl (Nat.le_of_ble_eq_true rfl) (jroom (by decide)) rfl (m_mothed (hC.1.okM (by omega) (by omega)) (hC.1.high (by omega) (by omega)) ?_)
                      dsimp only [jpush]
                      refine e_iret dX12_of_178 ?_
                      first
                        | exact ⟨by omega, hI⟩
                        | (have hq := hC.pl (p := pledge) (by omega) (by omega); exact ⟨by omega, hI⟩))
              · skip
                refine e_sipush 182 dX12_of_179 (by decide) rfl ?_
                refine e_iret dX12_of_182 ?_
                first
                  | exact ⟨by omega, hI⟩
                  | (have hq := hC.pl (p := pledge) (by omega) (by omega); exact ⟨by omega, hI⟩))
        · dsimp only [jpush]
          first
           | (exfalso; omega)
           | (skip
              refine e_if_ne 13 17 dX12_of_10 (by decide) (by decide) rfl (fun h => absurd h (by decide)) (fun _ => ?_)
              refine e_sipush 16 dX12_of_13 (by decide) rfl ?_
              refine e_iret dX12_of_16 ?_
              first
                | exact ⟨by omega, hI⟩
                | (have hq := hC.pl (p := pledge) (by omega) (by omega); exact ⟨by omega, hI⟩))
      · subst b26
        refine ⟨_, 86, rfl, by decide, ?_⟩
        refine e_aload_n (i := 3) 87 dX11_of_86 rfl rfl rfl ?_
        refine e_geti (j := 2) 90 fl_11_259 dX11_of_87 (at_pledge (by omega) (by omega)) (by decide) rfl rfl (fun r87 => ?_)
        refine e_iret dX11_of_90 ?_
        refine jCt_of mt_yX12_of (Nat.le_of_ble_eq_true rfl) (fun X2 => ?_)
        refine e_aload_n (i := 0) 1 dX12_of_0 rfl rfl rfl ?_
        refine e_iconst 2 dX12_of_1 rfl ?_
        refine e_put0 (j := 0) 5 fl_12_1 dX12_of_2 at_928 rfl rfl rfl (by decide) hI.1 rfl ?_
        refine e_aload_n (i := 0) 6 dX12_of_5 rfl rfl rfl ?_
        refine e_iload_n (i := 1) 7 dX12_of_6 rfl rfl rfl ?_
        refine e_callV 10 mt_yX12_isPledge mv_yX12_isPledge wd_1579 (by decide) dX12_of_7 at_928 jc_12 rfl rfl rfl (Nat.le_of_ble_eq_true rfl) (jroom (by decide)) rfl (m_isPledge (by omega) (fun w7 => ?_) (fun w7 => ?_))
        · dsimp only [jpush]
          first
           | (exfalso; omega)
           | (skip
              refine e_if_ne 13 17 dX12_of_10 (by decide) (by decide) rfl (fun _ => ?_) (fun h => absurd h (by decide))
              refine e_iload_n (i := 2) 18 dX12_of_17 rfl rfl rfl ?_
              refine e_tsw 179 dX12_of_18 (by omega) (by decide) (fun c0 hc0 hz0 => ?_) (fun b18 => ?_)
              · have hcc : c0 = 0 ∨ c0 = 1 ∨ c0 = 2 ∨ c0 = 3 ∨ c0 = 4 ∨ c0 = 5 ∨ c0 = 6 ∨ c0 = 7 ∨ c0 = 8 := by omega
                rcases hcc with b18 | b18 | b18 | b18 | b18 | b18 | b18 | b18 | b18
                · subst b18
                  refine ⟨_, 68, rfl, by decide, ?_⟩
                  first
                   | (exfalso; omega)
                   | (skip
                      refine e_aload_n (i := 0) 69 dX12_of_68 rfl rfl rfl ?_
                      refine e_getr (j := 1) 72 fl_12_13 dX12_of_69 at_928 rfl rfl tp_928_1 rfl ?_
                      refine e_sipush 75 dX12_of_72 (by decide) rfl ?_
                      refine e_iload_n (i := 1) 76 dX12_of_75 rfl rfl rfl ?_
                      refine e_iadd 77 dX12_of_76 rfl ?_
                      refine e_iald 78 dX12_of_77 ar_929 (by omega) (by omega) rfl (fun r77 => ?_)
                      refine e_iret dX12_of_78 ?_
                      first
                        | exact ⟨by omega, hI⟩
                        | (have hq := hC.pl (p := pledge) (by omega) (by omega); exact ⟨by omega, hI⟩))
                · subst b18
                  refine ⟨_, 79, rfl, by decide, ?_⟩
                  first
                   | (exfalso; omega)
                   | (skip
                      refine e_aload_n (i := 0) 80 dX12_of_79 rfl rfl rfl ?_
                      refine e_getr (j := 1) 83 fl_12_13 dX12_of_80 at_928 rfl rfl tp_928_1 rfl ?_
                      refine e_sipush 86 dX12_of_83 (by decide) rfl ?_
                      refine e_iload_n (i := 1) 87 dX12_of_86 rfl rfl rfl ?_
                      refine e_iadd 88 dX12_of_87 rfl ?_
                      refine e_iald 89 dX12_of_88 ar_929 (by omega) (by omega) rfl (fun r88 => ?_)
                      refine e_iret dX12_of_89 ?_
                      first
                        | exact ⟨by omega, hI⟩
                        | (have hq := hC.pl (p := pledge) (by omega) (by omega); exact ⟨by omega, hI⟩))
                · subst b18
                  refine ⟨_, 90, rfl, by decide, ?_⟩
                  first
                   | (exfalso; omega)
                   | (skip
                      refine e_aload_n (i := 0) 91 dX12_of_90 rfl rfl rfl ?_
                      refine e_getr (j := 1) 94 fl_12_13 dX12_of_91 at_928 rfl rfl tp_928_1 rfl ?_
                      refine e_sipush 97 dX12_of_94 (by decide) rfl ?_
                      refine e_iload_n (i := 1) 98 dX12_of_97 rfl rfl rfl ?_
                      refine e_iadd 99 dX12_of_98 rfl ?_
                      refine e_iald 100 dX12_of_99 ar_929 (by omega) (by omega) rfl (fun r99 => ?_)
                      refine e_iret dX12_of_100 ?_
                      first
                        | exact ⟨by omega, hI⟩
                        | (have hq := hC.pl (p := pledge) (by omega) (by omega); exact ⟨by omega, hI⟩))
                · subst b18
                  refine ⟨_, 101, rfl, by decide, ?_⟩
                  first
                   | (exfalso; omega)
                   | (skip
                      refine e_aload_n (i := 0) 102 dX12_of_101 rfl rfl rfl ?_
                      refine e_getr (j := 1) 105 fl_12_13 dX12_of_102 at_928 rfl rfl tp_928_1 rfl ?_
                      refine e_sipush 108 dX12_of_105 (by decide) rfl ?_
                      refine e_iload_n (i := 1) 109 dX12_of_108 rfl rfl rfl ?_
                      refine e_iadd 110 dX12_of_109 rfl ?_
                      refine e_iald 111 dX12_of_110 ar_929 (by omega) (by omega) rfl (fun r110 => ?_)
                      refine e_iret dX12_of_111 ?_
                      first
                        | exact ⟨by omega, hI⟩
                        | (have hq := hC.pl (p := pledge) (by omega) (by omega); exact ⟨by omega, hI⟩))
                · subst b18
                  refine ⟨_, 112, rfl, by decide, ?_⟩
                  first
                   | (exfalso; omega)
                   | (skip
                      refine e_aload_n (i := 0) 113 dX12_of_112 rfl rfl rfl ?_
                      refine e_getr (j := 1) 116 fl_12_13 dX12_of_113 at_928 rfl rfl tp_928_1 rfl ?_
                      refine e_sipush 119 dX12_of_116 (by decide) rfl ?_
                      refine e_iload_n (i := 1) 120 dX12_of_119 rfl rfl rfl ?_
                      refine e_iadd 121 dX12_of_120 rfl ?_
                      refine e_iald 122 dX12_of_121 ar_929 (by omega) (by omega) rfl (fun r121 => ?_)
                      refine e_iret dX12_of_122 ?_
                      first
                        | exact ⟨by omega, hI⟩
                        | (have hq := hC.pl (p := pledge) (by omega) (by omega); exact ⟨by omega, hI⟩))
                · subst b18
                  refine ⟨_, 123, rfl, by decide, ?_⟩
                  first
                   | (exfalso; omega)
                   | (skip
                      refine e_aload_n (i := 0) 124 dX12_of_123 rfl rfl rfl ?_
                      refine e_getr (j := 1) 127 fl_12_13 dX12_of_124 at_928 rfl rfl tp_928_1 rfl ?_
                      refine e_sipush 130 dX12_of_127 (by decide) rfl ?_
                      refine e_iload_n (i := 1) 131 dX12_of_130 rfl rfl rfl ?_
                      refine e_iadd 132 dX12_of_131 rfl ?_
                      refine e_iald 133 dX12_of_132 ar_929 (by omega) (by omega) rfl (fun r132 => ?_)
                      refine e_iret dX12_of_133 ?_
                      first
                        | exact ⟨by omega, hI⟩
                        | (have hq := hC.pl (p := pledge) (by omega) (by omega); exact ⟨by omega, hI⟩))
                · subst b18
                  refine ⟨_, 134, rfl, by decide, ?_⟩
                  first
                   | (exfalso; omega)
                   | (skip
                      refine e_aload_n (i := 0) 135 dX12_of_134 rfl rfl rfl ?_
                      refine e_iload_n (i := 1) 136 dX12_of_135 rfl rfl rfl ?_
                      refine e_callV 139 mt_yX12_isHeld mv_yX12_isHeld wd_1559 (by decide) dX12_of_136 at_928 jc_12 rfl rfl rfl (Nat.le_of_ble_eq_true rfl) (jroom (by decide)) rfl (m_isHeld (by omega) (fun w136 => ?_) (fun w136 => ?_))
                      · dsimp only [jpush]
                        first
                         | (exfalso; omega)
                         | (skip
                            refine e_if_eq 142 146 dX12_of_139 (by decide) (by decide) rfl (fun h => absurd h (by decide)) (fun _ => ?_)
                            refine e_iconst 143 dX12_of_142 rfl ?_
                            refine e_goto 147 dX12_of_143 (by decide) ?_
                            refine e_iret dX12_of_147 ?_
                            first
                              | exact ⟨by omega, hI⟩
                              | (have hq := hC.pl (p := pledge) (by omega) (by omega); exact ⟨by omega, hI⟩))
                      · dsimp only [jpush]
                        first
                         | (exfalso; omega)
                         | (skip
                            refine e_if_eq 142 146 dX12_of_139 (by decide) (by decide) rfl (fun _ => ?_) (fun h => absurd h (by decide))
                            refine e_iconst 147 dX12_of_146 rfl ?_
                            refine e_iret dX12_of_147 ?_
                            first
                              | exact ⟨by omega, hI⟩
                              | (have hq := hC.pl (p := pledge) (by omega) (by omega); exact ⟨by omega, hI⟩)))
                · subst b18
                  refine ⟨_, 148, rfl, by decide, ?_⟩
                  first
                   | (exfalso; omega)
                   | (skip
                      refine e_aload_n (i := 0) 149 dX12_of_148 rfl rfl rfl ?_
                      refine e_iload_n (i := 1) 150 dX12_of_149 rfl rfl rfl ?_
                      refine e_callV 153 mt_yX12_mothedLow mv_yX12_mothedLow wd_1591 (by decide) dX12_of_150 at_928 jc_12 rfl rfl rfl (Nat.le_of_ble_eq_true rfl) (jroom (by decide)) rfl (m_mothedLow (hC.1.okM (by omega) (by omega)) (hC.1.low (by omega) (by omega)) ?_)
                      dsimp only [jpush]
                      refine e_iret dX12_of_153 ?_
                      first
                        | exact ⟨by omega, hI⟩
                        | (have hq := hC.pl (p := pledge) (by omega) (by omega); exact ⟨by omega, hI⟩))
                · subst b18
                  refine ⟨_, 154, rfl, by decide, ?_⟩
                  first
                   | (exfalso; omega)
                   | (skip
                      have hpr := hC.plr (p := pledge) (by omega) (by omega)
                      refine e_aload_n (i := 0) 155 dX12_of_154 rfl rfl rfl ?_
                      refine e_iload_n (i := 1) 156 dX12_of_155 rfl rfl rfl ?_
                      refine e_aload_n (i := 0) 157 dX12_of_156 rfl rfl rfl ?_
                      refine e_getr (j := 1) 160 fl_12_13 dX12_of_157 at_928 rfl rfl tp_928_1 rfl ?_
                      refine e_sipush 163 dX12_of_160 (by decide) rfl ?_
                      refine e_aload_n (i := 0) 164 dX12_of_163 rfl rfl rfl ?_
                      refine e_getr (j := 1) 167 fl_12_13 dX12_of_164 at_928 rfl rfl tp_928_1 rfl ?_
                      refine e_sipush 170 dX12_of_167 (by decide) rfl ?_
                      refine e_iload_n (i := 1) 171 dX12_of_170 rfl rfl rfl ?_
                      refine e_iadd 172 dX12_of_171 rfl ?_
                      refine e_iald 173 dX12_of_172 ar_929 (by omega) (by omega) rfl (fun r172 => ?_)
                      refine e_iadd 174 dX12_of_173 rfl ?_
                      refine e_iald 175 dX12_of_174 ar_929 (by omega) (by omega) rfl (fun r174 => ?_)
                      refine e_callV 178 mt_yX12_mothed mv_yX12_mothed wd_1595 (by decide) dX12_of_175 at_928 jc_12 rfl rfl rfl (Nat.le_of_ble_eq_true rfl) (jroom (by decide)) rfl (m_mothed (hC.1.okM (by omega) (by omega)) (hC.1.high (by omega) (by omega)) ?_)
                      dsimp only [jpush]
                      refine e_iret dX12_of_178 ?_
                      first
                        | exact ⟨by omega, hI⟩
                        | (have hq := hC.pl (p := pledge) (by omega) (by omega); exact ⟨by omega, hI⟩))
              · skip
                refine e_sipush 182 dX12_of_179 (by decide) rfl ?_
                refine e_iret dX12_of_182 ?_
                first
                  | exact ⟨by omega, hI⟩
                  | (have hq := hC.pl (p := pledge) (by omega) (by omega); exact ⟨by omega, hI⟩))
        · dsimp only [jpush]
          first
           | (exfalso; omega)
           | (skip
              refine e_if_ne 13 17 dX12_of_10 (by decide) (by decide) rfl (fun h => absurd h (by decide)) (fun _ => ?_)
              refine e_sipush 16 dX12_of_13 (by decide) rfl ?_
              refine e_iret dX12_of_16 ?_
              first
                | exact ⟨by omega, hI⟩
                | (have hq := hC.pl (p := pledge) (by omega) (by omega); exact ⟨by omega, hI⟩))
      · subst b26
        refine ⟨_, 91, rfl, by decide, ?_⟩
        refine e_aload_n (i := 3) 92 dX11_of_91 rfl rfl rfl ?_
        refine e_geti (j := 3) 95 fl_11_229 dX11_of_92 (at_pledge (by omega) (by omega)) (by decide) rfl rfl (fun r92 => ?_)
        refine e_iret dX11_of_95 ?_
        refine jCt_of mt_yX12_of (Nat.le_of_ble_eq_true rfl) (fun X2 => ?_)
        refine e_aload_n (i := 0) 1 dX12_of_0 rfl rfl rfl ?_
        refine e_iconst 2 dX12_of_1 rfl ?_
        refine e_put0 (j := 0) 5 fl_12_1 dX12_of_2 at_928 rfl rfl rfl (by decide) hI.1 rfl ?_
        refine e_aload_n (i := 0) 6 dX12_of_5 rfl rfl rfl ?_
        refine e_iload_n (i := 1) 7 dX12_of_6 rfl rfl rfl ?_
        refine e_callV 10 mt_yX12_isPledge mv_yX12_isPledge wd_1579 (by decide) dX12_of_7 at_928 jc_12 rfl rfl rfl (Nat.le_of_ble_eq_true rfl) (jroom (by decide)) rfl (m_isPledge (by omega) (fun w7 => ?_) (fun w7 => ?_))
        · dsimp only [jpush]
          first
           | (exfalso; omega)
           | (skip
              refine e_if_ne 13 17 dX12_of_10 (by decide) (by decide) rfl (fun _ => ?_) (fun h => absurd h (by decide))
              refine e_iload_n (i := 2) 18 dX12_of_17 rfl rfl rfl ?_
              refine e_tsw 179 dX12_of_18 (by omega) (by decide) (fun c0 hc0 hz0 => ?_) (fun b18 => ?_)
              · have hcc : c0 = 0 ∨ c0 = 1 ∨ c0 = 2 ∨ c0 = 3 ∨ c0 = 4 ∨ c0 = 5 ∨ c0 = 6 ∨ c0 = 7 ∨ c0 = 8 := by omega
                rcases hcc with b18 | b18 | b18 | b18 | b18 | b18 | b18 | b18 | b18
                · subst b18
                  refine ⟨_, 68, rfl, by decide, ?_⟩
                  first
                   | (exfalso; omega)
                   | (skip
                      refine e_aload_n (i := 0) 69 dX12_of_68 rfl rfl rfl ?_
                      refine e_getr (j := 1) 72 fl_12_13 dX12_of_69 at_928 rfl rfl tp_928_1 rfl ?_
                      refine e_sipush 75 dX12_of_72 (by decide) rfl ?_
                      refine e_iload_n (i := 1) 76 dX12_of_75 rfl rfl rfl ?_
                      refine e_iadd 77 dX12_of_76 rfl ?_
                      refine e_iald 78 dX12_of_77 ar_929 (by omega) (by omega) rfl (fun r77 => ?_)
                      refine e_iret dX12_of_78 ?_
                      first
                        | exact ⟨by omega, hI⟩
                        | (have hq := hC.pl (p := pledge) (by omega) (by omega); exact ⟨by omega, hI⟩))
                · subst b18
                  refine ⟨_, 79, rfl, by decide, ?_⟩
                  first
                   | (exfalso; omega)
                   | (skip
                      refine e_aload_n (i := 0) 80 dX12_of_79 rfl rfl rfl ?_
                      refine e_getr (j := 1) 83 fl_12_13 dX12_of_80 at_928 rfl rfl tp_928_1 rfl ?_
                      refine e_sipush 86 dX12_of_83 (by decide) rfl ?_
                      refine e_iload_n (i := 1) 87 dX12_of_86 rfl rfl rfl ?_
                      refine e_iadd 88 dX12_of_87 rfl ?_
                      refine e_iald 89 dX12_of_88 ar_929 (by omega) (by omega) rfl (fun r88 => ?_)
                      refine e_iret dX12_of_89 ?_
                      first
                        | exact ⟨by omega, hI⟩
                        | (have hq := hC.pl (p := pledge) (by omega) (by omega); exact ⟨by omega, hI⟩))
                · subst b18
                  refine ⟨_, 90, rfl, by decide, ?_⟩
                  first
                   | (exfalso; omega)
                   | (skip
                      refine e_aload_n (i := 0) 91 dX12_of_90 rfl rfl rfl ?_
                      refine e_getr (j := 1) 94 fl_12_13 dX12_of_91 at_928 rfl rfl tp_928_1 rfl ?_
                      refine e_sipush 97 dX12_of_94 (by decide) rfl ?_
                      refine e_iload_n (i := 1) 98 dX12_of_97 rfl rfl rfl ?_
                      refine e_iadd 99 dX12_of_98 rfl ?_
                      refine e_iald 100 dX12_of_99 ar_929 (by omega) (by omega) rfl (fun r99 => ?_)
                      refine e_iret dX12_of_100 ?_
                      first
                        | exact ⟨by omega, hI⟩
                        | (have hq := hC.pl (p := pledge) (by omega) (by omega); exact ⟨by omega, hI⟩))
                · subst b18
                  refine ⟨_, 101, rfl, by decide, ?_⟩
                  first
                   | (exfalso; omega)
                   | (skip
                      refine e_aload_n (i := 0) 102 dX12_of_101 rfl rfl rfl ?_
                      refine e_getr (j := 1) 105 fl_12_13 dX12_of_102 at_928 rfl rfl tp_928_1 rfl ?_
                      refine e_sipush 108 dX12_of_105 (by decide) rfl ?_
                      refine e_iload_n (i := 1) 109 dX12_of_108 rfl rfl rfl ?_
                      refine e_iadd 110 dX12_of_109 rfl ?_
                      refine e_iald 111 dX12_of_110 ar_929 (by omega) (by omega) rfl (fun r110 => ?_)
                      refine e_iret dX12_of_111 ?_
                      first
                        | exact ⟨by omega, hI⟩
                        | (have hq := hC.pl (p := pledge) (by omega) (by omega); exact ⟨by omega, hI⟩))
                · subst b18
                  refine ⟨_, 112, rfl, by decide, ?_⟩
                  first
                   | (exfalso; omega)
                   | (skip
                      refine e_aload_n (i := 0) 113 dX12_of_112 rfl rfl rfl ?_
                      refine e_getr (j := 1) 116 fl_12_13 dX12_of_113 at_928 rfl rfl tp_928_1 rfl ?_
                      refine e_sipush 119 dX12_of_116 (by decide) rfl ?_
                      refine e_iload_n (i := 1) 120 dX12_of_119 rfl rfl rfl ?_
                      refine e_iadd 121 dX12_of_120 rfl ?_
                      refine e_iald 122 dX12_of_121 ar_929 (by omega) (by omega) rfl (fun r121 => ?_)
                      refine e_iret dX12_of_122 ?_
                      first
                        | exact ⟨by omega, hI⟩
                        | (have hq := hC.pl (p := pledge) (by omega) (by omega); exact ⟨by omega, hI⟩))
                · subst b18
                  refine ⟨_, 123, rfl, by decide, ?_⟩
                  first
                   | (exfalso; omega)
                   | (skip
                      refine e_aload_n (i := 0) 124 dX12_of_123 rfl rfl rfl ?_
                      refine e_getr (j := 1) 127 fl_12_13 dX12_of_124 at_928 rfl rfl tp_928_1 rfl ?_
                      refine e_sipush 130 dX12_of_127 (by decide) rfl ?_
                      refine e_iload_n (i := 1) 131 dX12_of_130 rfl rfl rfl ?_
                      refine e_iadd 132 dX12_of_131 rfl ?_
                      refine e_iald 133 dX12_of_132 ar_929 (by omega) (by omega) rfl (fun r132 => ?_)
                      refine e_iret dX12_of_133 ?_
                      first
                        | exact ⟨by omega, hI⟩
                        | (have hq := hC.pl (p := pledge) (by omega) (by omega); exact ⟨by omega, hI⟩))
                · subst b18
                  refine ⟨_, 134, rfl, by decide, ?_⟩
                  first
                   | (exfalso; omega)
                   | (skip
                      refine e_aload_n (i := 0) 135 dX12_of_134 rfl rfl rfl ?_
                      refine e_iload_n (i := 1) 136 dX12_of_135 rfl rfl rfl ?_
                      refine e_callV 139 mt_yX12_isHeld mv_yX12_isHeld wd_1559 (by decide) dX12_of_136 at_928 jc_12 rfl rfl rfl (Nat.le_of_ble_eq_true rfl) (jroom (by decide)) rfl (m_isHeld (by omega) (fun w136 => ?_) (fun w136 => ?_))
                      · dsimp only [jpush]
                        first
                         | (exfalso; omega)
                         | (skip
                            refine e_if_eq 142 146 dX12_of_139 (by decide) (by decide) rfl (fun h => absurd h (by decide)) (fun _ => ?_)
                            refine e_iconst 143 dX12_of_142 rfl ?_
                            refine e_goto 147 dX12_of_143 (by decide) ?_
                            refine e_iret dX12_of_147 ?_
                            first
                              | exact ⟨by omega, hI⟩
                              | (have hq := hC.pl (p := pledge) (by omega) (by omega); exact ⟨by omega, hI⟩))
                      · dsimp only [jpush]
                        first
                         | (exfalso; omega)
                         | (skip
                            refine e_if_eq 142 146 dX12_of_139 (by decide) (by decide) rfl (fun _ => ?_) (fun h => absurd h (by decide))
                            refine e_iconst 147 dX12_of_146 rfl ?_
                            refine e_iret dX12_of_147 ?_
                            first
                              | exact ⟨by omega, hI⟩
                              | (have hq := hC.pl (p := pledge) (by omega) (by omega); exact ⟨by omega, hI⟩)))
                · subst b18
                  refine ⟨_, 148, rfl, by decide, ?_⟩
                  first
                   | (exfalso; omega)
                   | (skip
                      refine e_aload_n (i := 0) 149 dX12_of_148 rfl rfl rfl ?_
                      refine e_iload_n (i := 1) 150 dX12_of_149 rfl rfl rfl ?_
                      refine e_callV 153 mt_yX12_mothedLow mv_yX12_mothedLow wd_1591 (by decide) dX12_of_150 at_928 jc_12 rfl rfl rfl (Nat.le_of_ble_eq_true rfl) (jroom (by decide)) rfl (m_mothedLow (hC.1.okM (by omega) (by omega)) (hC.1.low (by omega) (by omega)) ?_)
                      dsimp only [jpush]
                      refine e_iret dX12_of_153 ?_
                      first
                        | exact ⟨by omega, hI⟩
                        | (have hq := hC.pl (p := pledge) (by omega) (by omega); exact ⟨by omega, hI⟩))
                · subst b18
                  refine ⟨_, 154, rfl, by decide, ?_⟩
                  first
                   | (exfalso; omega)
                   | (skip
                      have hpr := hC.plr (p := pledge) (by omega) (by omega)
                      refine e_aload_n (i := 0) 155 dX12_of_154 rfl rfl rfl ?_
                      refine e_iload_n (i := 1) 156 dX12_of_155 rfl rfl rfl ?_
                      refine e_aload_n (i := 0) 157 dX12_of_156 rfl rfl rfl ?_
                      refine e_getr (j := 1) 160 fl_12_13 dX12_of_157 at_928 rfl rfl tp_928_1 rfl ?_
                      refine e_sipush 163 dX12_of_160 (by decide) rfl ?_
                      refine e_aload_n (i := 0) 164 dX12_of_163 rfl rfl rfl ?_
                      refine e_getr (j := 1) 167 fl_12_13 dX12_of_164 at_928 rfl rfl tp_928_1 rfl ?_
                      refine e_sipush 170 dX12_of_167 (by decide) rfl ?_
                      refine e_iload_n (i := 1) 171 dX12_of_170 rfl rfl rfl ?_
                      refine e_iadd 172 dX12_of_171 rfl ?_
                      refine e_iald 173 dX12_of_172 ar_929 (by omega) (by omega) rfl (fun r172 => ?_)
                      refine e_iadd 174 dX12_of_173 rfl ?_
                      refine e_iald 175 dX12_of_174 ar_929 (by omega) (by omega) rfl (fun r174 => ?_)
                      refine e_callV 178 mt_yX12_mothed mv_yX12_mothed wd_1595 (by decide) dX12_of_175 at_928 jc_12 rfl rfl rfl (Nat.le_of_ble_eq_true rfl) (jroom (by decide)) rfl (m_mothed (hC.1.okM (by omega) (by omega)) (hC.1.high (by omega) (by omega)) ?_)
                      dsimp only [jpush]
                      refine e_iret dX12_of_178 ?_
                      first
                        | exact ⟨by omega, hI⟩
                        | (have hq := hC.pl (p := pledge) (by omega) (by omega); exact ⟨by omega, hI⟩))
              · skip
                refine e_sipush 182 dX12_of_179 (by decide) rfl ?_
                refine e_iret dX12_of_182 ?_
                first
                  | exact ⟨by omega, hI⟩
                  | (have hq := hC.pl (p := pledge) (by omega) (by omega); exact ⟨by omega, hI⟩))
        · dsimp only [jpush]
          first
           | (exfalso; omega)
           | (skip
              refine e_if_ne 13 17 dX12_of_10 (by decide) (by decide) rfl (fun h => absurd h (by decide)) (fun _ => ?_)
              refine e_sipush 16 dX12_of_13 (by decide) rfl ?_
              refine e_iret dX12_of_16 ?_
              first
                | exact ⟨by omega, hI⟩
                | (have hq := hC.pl (p := pledge) (by omega) (by omega); exact ⟨by omega, hI⟩))
      · subst b26
        refine ⟨_, 96, rfl, by decide, ?_⟩
        refine e_aload_n (i := 3) 97 dX11_of_96 rfl rfl rfl ?_
        refine e_geti (j := 5) 100 fl_11_262 dX11_of_97 (at_pledge (by omega) (by omega)) (by decide) rfl rfl (fun r97 => ?_)
        refine e_iret dX11_of_100 ?_
        refine jCt_of mt_yX12_of (Nat.le_of_ble_eq_true rfl) (fun X2 => ?_)
        refine e_aload_n (i := 0) 1 dX12_of_0 rfl rfl rfl ?_
        refine e_iconst 2 dX12_of_1 rfl ?_
        refine e_put0 (j := 0) 5 fl_12_1 dX12_of_2 at_928 rfl rfl rfl (by decide) hI.1 rfl ?_
        refine e_aload_n (i := 0) 6 dX12_of_5 rfl rfl rfl ?_
        refine e_iload_n (i := 1) 7 dX12_of_6 rfl rfl rfl ?_
        refine e_callV 10 mt_yX12_isPledge mv_yX12_isPledge wd_1579 (by decide) dX12_of_7 at_928 jc_12 rfl rfl rfl (Nat.le_of_ble_eq_true rfl) (jroom (by decide)) rfl (m_isPledge (by omega) (fun w7 => ?_) (fun w7 => ?_))
        · dsimp only [jpush]
          first
           | (exfalso; omega)
           | (skip
              refine e_if_ne 13 17 dX12_of_10 (by decide) (by decide) rfl (fun _ => ?_) (fun h => absurd h (by decide))
              refine e_iload_n (i := 2) 18 dX12_of_17 rfl rfl rfl ?_
              refine e_tsw 179 dX12_of_18 (by omega) (by decide) (fun c0 hc0 hz0 => ?_) (fun b18 => ?_)
              · have hcc : c0 = 0 ∨ c0 = 1 ∨ c0 = 2 ∨ c0 = 3 ∨ c0 = 4 ∨ c0 = 5 ∨ c0 = 6 ∨ c0 = 7 ∨ c0 = 8 := by omega
                rcases hcc with b18 | b18 | b18 | b18 | b18 | b18 | b18 | b18 | b18
                · subst b18
                  refine ⟨_, 68, rfl, by decide, ?_⟩
                  first
                   | (exfalso; omega)
                   | (skip
                      refine e_aload_n (i := 0) 69 dX12_of_68 rfl rfl rfl ?_
                      refine e_getr (j := 1) 72 fl_12_13 dX12_of_69 at_928 rfl rfl tp_928_1 rfl ?_
                      refine e_sipush 75 dX12_of_72 (by decide) rfl ?_
                      refine e_iload_n (i := 1) 76 dX12_of_75 rfl rfl rfl ?_
                      refine e_iadd 77 dX12_of_76 rfl ?_
                      refine e_iald 78 dX12_of_77 ar_929 (by omega) (by omega) rfl (fun r77 => ?_)
                      refine e_iret dX12_of_78 ?_
                      first
                        | exact ⟨by omega, hI⟩
                        | (have hq := hC.pl (p := pledge) (by omega) (by omega); exact ⟨by omega, hI⟩))
                · subst b18
                  refine ⟨_, 79, rfl, by decide, ?_⟩
                  first
                   | (exfalso; omega)
                   | (skip
                      refine e_aload_n (i := 0) 80 dX12_of_79 rfl rfl rfl ?_
                      refine e_getr (j := 1) 83 fl_12_13 dX12_of_80 at_928 rfl rfl tp_928_1 rfl ?_
                      refine e_sipush 86 dX12_of_83 (by decide) rfl ?_
                      refine e_iload_n (i := 1) 87 dX12_of_86 rfl rfl rfl ?_
                      refine e_iadd 88 dX12_of_87 rfl ?_
                      refine e_iald 89 dX12_of_88 ar_929 (by omega) (by omega) rfl (fun r88 => ?_)
                      refine e_iret dX12_of_89 ?_
                      first
                        | exact ⟨by omega, hI⟩
                        | (have hq := hC.pl (p := pledge) (by omega) (by omega); exact ⟨by omega, hI⟩))
                · subst b18
                  refine ⟨_, 90, rfl, by decide, ?_⟩
                  first
                   | (exfalso; omega)
                   | (skip
                      refine e_aload_n (i := 0) 91 dX12_of_90 rfl rfl rfl ?_
                      refine e_getr (j := 1) 94 fl_12_13 dX12_of_91 at_928 rfl rfl tp_928_1 rfl ?_
                      refine e_sipush 97 dX12_of_94 (by decide) rfl ?_
                      refine e_iload_n (i := 1) 98 dX12_of_97 rfl rfl rfl ?_
                      refine e_iadd 99 dX12_of_98 rfl ?_
                      refine e_iald 100 dX12_of_99 ar_929 (by omega) (by omega) rfl (fun r99 => ?_)
                      refine e_iret dX12_of_100 ?_
                      first
                        | exact ⟨by omega, hI⟩
                        | (have hq := hC.pl (p := pledge) (by omega) (by omega); exact ⟨by omega, hI⟩))
                · subst b18
                  refine ⟨_, 101, rfl, by decide, ?_⟩
                  first
                   | (exfalso; omega)
                   | (skip
                      refine e_aload_n (i := 0) 102 dX12_of_101 rfl rfl rfl ?_
                      refine e_getr (j := 1) 105 fl_12_13 dX12_of_102 at_928 rfl rfl tp_928_1 rfl ?_
                      refine e_sipush 108 dX12_of_105 (by decide) rfl ?_
                      refine e_iload_n (i := 1) 109 dX12_of_108 rfl rfl rfl ?_
                      refine e_iadd 110 dX12_of_109 rfl ?_
                      refine e_iald 111 dX12_of_110 ar_929 (by omega) (by omega) rfl (fun r110 => ?_)
                      refine e_iret dX12_of_111 ?_
                      first
                        | exact ⟨by omega, hI⟩
                        | (have hq := hC.pl (p := pledge) (by omega) (by omega); exact ⟨by omega, hI⟩))
                · subst b18
                  refine ⟨_, 112, rfl, by decide, ?_⟩
                  first
                   | (exfalso; omega)
                   | (skip
                      refine e_aload_n (i := 0) 113 dX12_of_112 rfl rfl rfl ?_
                      refine e_getr (j := 1) 116 fl_12_13 dX12_of_113 at_928 rfl rfl tp_928_1 rfl ?_
                      refine e_sipush 119 dX12_of_116 (by decide) rfl ?_
                      refine e_iload_n (i := 1) 120 dX12_of_119 rfl rfl rfl ?_
                      refine e_iadd 121 dX12_of_120 rfl ?_
                      refine e_iald 122 dX12_of_121 ar_929 (by omega) (by omega) rfl (fun r121 => ?_)
                      refine e_iret dX12_of_122 ?_
                      first
                        | exact ⟨by omega, hI⟩
                        | (have hq := hC.pl (p := pledge) (by omega) (by omega); exact ⟨by omega, hI⟩))
                · subst b18
                  refine ⟨_, 123, rfl, by decide, ?_⟩
                  first
                   | (exfalso; omega)
                   | (skip
                      refine e_aload_n (i := 0) 124 dX12_of_123 rfl rfl rfl ?_
                      refine e_getr (j := 1) 127 fl_12_13 dX12_of_124 at_928 rfl rfl tp_928_1 rfl ?_
                      refine e_sipush 130 dX12_of_127 (by decide) rfl ?_
                      refine e_iload_n (i := 1) 131 dX12_of_130 rfl rfl rfl ?_
                      refine e_iadd 132 dX12_of_131 rfl ?_
                      refine e_iald 133 dX12_of_132 ar_929 (by omega) (by omega) rfl (fun r132 => ?_)
                      refine e_iret dX12_of_133 ?_
                      first
                        | exact ⟨by omega, hI⟩
                        | (have hq := hC.pl (p := pledge) (by omega) (by omega); exact ⟨by omega, hI⟩))
                · subst b18
                  refine ⟨_, 134, rfl, by decide, ?_⟩
                  first
                   | (exfalso; omega)
                   | (skip
                      refine e_aload_n (i := 0) 135 dX12_of_134 rfl rfl rfl ?_
                      refine e_iload_n (i := 1) 136 dX12_of_135 rfl rfl rfl ?_
                      refine e_callV 139 mt_yX12_isHeld mv_yX12_isHeld wd_1559 (by decide) dX12_of_136 at_928 jc_12 rfl rfl rfl (Nat.le_of_ble_eq_true rfl) (jroom (by decide)) rfl (m_isHeld (by omega) (fun w136 => ?_) (fun w136 => ?_))
                      · dsimp only [jpush]
                        first
                         | (exfalso; omega)
                         | (skip
                            refine e_if_eq 142 146 dX12_of_139 (by decide) (by decide) rfl (fun h => absurd h (by decide)) (fun _ => ?_)
                            refine e_iconst 143 dX12_of_142 rfl ?_
                            refine e_goto 147 dX12_of_143 (by decide) ?_
                            refine e_iret dX12_of_147 ?_
                            first
                              | exact ⟨by omega, hI⟩
                              | (have hq := hC.pl (p := pledge) (by omega) (by omega); exact ⟨by omega, hI⟩))
                      · dsimp only [jpush]
                        first
                         | (exfalso; omega)
                         | (skip
                            refine e_if_eq 142 146 dX12_of_139 (by decide) (by decide) rfl (fun _ => ?_) (fun h => absurd h (by decide))
                            refine e_iconst 147 dX12_of_146 rfl ?_
                            refine e_iret dX12_of_147 ?_
                            first
                              | exact ⟨by omega, hI⟩
                              | (have hq := hC.pl (p := pledge) (by omega) (by omega); exact ⟨by omega, hI⟩)))
                · subst b18
                  refine ⟨_, 148, rfl, by decide, ?_⟩
                  first
                   | (exfalso; omega)
                   | (skip
                      refine e_aload_n (i := 0) 149 dX12_of_148 rfl rfl rfl ?_
                      refine e_iload_n (i := 1) 150 dX12_of_149 rfl rfl rfl ?_
                      refine e_callV 153 mt_yX12_mothedLow mv_yX12_mothedLow wd_1591 (by decide) dX12_of_150 at_928 jc_12 rfl rfl rfl (Nat.le_of_ble_eq_true rfl) (jroom (by decide)) rfl (m_mothedLow (hC.1.okM (by omega) (by omega)) (hC.1.low (by omega) (by omega)) ?_)
                      dsimp only [jpush]
                      refine e_iret dX12_of_153 ?_
                      first
                        | exact ⟨by omega, hI⟩
                        | (have hq := hC.pl (p := pledge) (by omega) (by omega); exact ⟨by omega, hI⟩))
                · subst b18
                  refine ⟨_, 154, rfl, by decide, ?_⟩
                  first
                   | (exfalso; omega)
                   | (skip
                      have hpr := hC.plr (p := pledge) (by omega) (by omega)
                      refine e_aload_n (i := 0) 155 dX12_of_154 rfl rfl rfl ?_
                      refine e_iload_n (i := 1) 156 dX12_of_155 rfl rfl rfl ?_
                      refine e_aload_n (i := 0) 157 dX12_of_156 rfl rfl rfl ?_
                      refine e_getr (j := 1) 160 fl_12_13 dX12_of_157 at_928 rfl rfl tp_928_1 rfl ?_
                      refine e_sipush 163 dX12_of_160 (by decide) rfl ?_
                      refine e_aload_n (i := 0) 164 dX12_of_163 rfl rfl rfl ?_
                      refine e_getr (j := 1) 167 fl_12_13 dX12_of_164 at_928 rfl rfl tp_928_1 rfl ?_
                      refine e_sipush 170 dX12_of_167 (by decide) rfl ?_
                      refine e_iload_n (i := 1) 171 dX12_of_170 rfl rfl rfl ?_
                      refine e_iadd 172 dX12_of_171 rfl ?_
                      refine e_iald 173 dX12_of_172 ar_929 (by omega) (by omega) rfl (fun r172 => ?_)
                      refine e_iadd 174 dX12_of_173 rfl ?_
                      refine e_iald 175 dX12_of_174 ar_929 (by omega) (by omega) rfl (fun r174 => ?_)
                      refine e_callV 178 mt_yX12_mothed mv_yX12_mothed wd_1595 (by decide) dX12_of_175 at_928 jc_12 rfl rfl rfl (Nat.le_of_ble_eq_true rfl) (jroom (by decide)) rfl (m_mothed (hC.1.okM (by omega) (by omega)) (hC.1.high (by omega) (by omega)) ?_)
                      dsimp only [jpush]
                      refine e_iret dX12_of_178 ?_
                      first
                        | exact ⟨by omega, hI⟩
                        | (have hq := hC.pl (p := pledge) (by omega) (by omega); exact ⟨by omega, hI⟩))
              · skip
                refine e_sipush 182 dX12_of_179 (by decide) rfl ?_
                refine e_iret dX12_of_182 ?_
                first
                  | exact ⟨by omega, hI⟩
                  | (have hq := hC.pl (p := pledge) (by omega) (by omega); exact ⟨by omega, hI⟩))
        · dsimp only [jpush]
          first
           | (exfalso; omega)
           | (skip
              refine e_if_ne 13 17 dX12_of_10 (by decide) (by decide) rfl (fun h => absurd h (by decide)) (fun _ => ?_)
              refine e_sipush 16 dX12_of_13 (by decide) rfl ?_
              refine e_iret dX12_of_16 ?_
              first
                | exact ⟨by omega, hI⟩
                | (have hq := hC.pl (p := pledge) (by omega) (by omega); exact ⟨by omega, hI⟩))
      · subst b26
        refine ⟨_, 101, rfl, by decide, ?_⟩
        refine e_aload_n (i := 3) 102 dX11_of_101 rfl rfl rfl ?_
        refine e_geti (j := 6) 105 fl_11_247 dX11_of_102 (at_pledge (by omega) (by omega)) (by decide) rfl rfl (fun r102 => ?_)
        refine e_iret dX11_of_105 ?_
        refine jCt_of mt_yX12_of (Nat.le_of_ble_eq_true rfl) (fun X2 => ?_)
        refine e_aload_n (i := 0) 1 dX12_of_0 rfl rfl rfl ?_
        refine e_iconst 2 dX12_of_1 rfl ?_
        refine e_put0 (j := 0) 5 fl_12_1 dX12_of_2 at_928 rfl rfl rfl (by decide) hI.1 rfl ?_
        refine e_aload_n (i := 0) 6 dX12_of_5 rfl rfl rfl ?_
        refine e_iload_n (i := 1) 7 dX12_of_6 rfl rfl rfl ?_
        refine e_callV 10 mt_yX12_isPledge mv_yX12_isPledge wd_1579 (by decide) dX12_of_7 at_928 jc_12 rfl rfl rfl (Nat.le_of_ble_eq_true rfl) (jroom (by decide)) rfl (m_isPledge (by omega) (fun w7 => ?_) (fun w7 => ?_))
        · dsimp only [jpush]
          first
           | (exfalso; omega)
           | (skip
              refine e_if_ne 13 17 dX12_of_10 (by decide) (by decide) rfl (fun _ => ?_) (fun h => absurd h (by decide))
              refine e_iload_n (i := 2) 18 dX12_of_17 rfl rfl rfl ?_
              refine e_tsw 179 dX12_of_18 (by omega) (by decide) (fun c0 hc0 hz0 => ?_) (fun b18 => ?_)
              · have hcc : c0 = 0 ∨ c0 = 1 ∨ c0 = 2 ∨ c0 = 3 ∨ c0 = 4 ∨ c0 = 5 ∨ c0 = 6 ∨ c0 = 7 ∨ c0 = 8 := by omega
                rcases hcc with b18 | b18 | b18 | b18 | b18 | b18 | b18 | b18 | b18
                · subst b18
                  refine ⟨_, 68, rfl, by decide, ?_⟩
                  first
                   | (exfalso; omega)
                   | (skip
                      refine e_aload_n (i := 0) 69 dX12_of_68 rfl rfl rfl ?_
                      refine e_getr (j := 1) 72 fl_12_13 dX12_of_69 at_928 rfl rfl tp_928_1 rfl ?_
                      refine e_sipush 75 dX12_of_72 (by decide) rfl ?_
                      refine e_iload_n (i := 1) 76 dX12_of_75 rfl rfl rfl ?_
                      refine e_iadd 77 dX12_of_76 rfl ?_
                      refine e_iald 78 dX12_of_77 ar_929 (by omega) (by omega) rfl (fun r77 => ?_)
                      refine e_iret dX12_of_78 ?_
                      first
                        | exact ⟨by omega, hI⟩
                        | (have hq := hC.pl (p := pledge) (by omega) (by omega); exact ⟨by omega, hI⟩))
                · subst b18
                  refine ⟨_, 79, rfl, by decide, ?_⟩
                  first
                   | (exfalso; omega)
                   | (skip
                      refine e_aload_n (i := 0) 80 dX12_of_79 rfl rfl rfl ?_
                      refine e_getr (j := 1) 83 fl_12_13 dX12_of_80 at_928 rfl rfl tp_928_1 rfl ?_
                      refine e_sipush 86 dX12_of_83 (by decide) rfl ?_
                      refine e_iload_n (i := 1) 87 dX12_of_86 rfl rfl rfl ?_
                      refine e_iadd 88 dX12_of_87 rfl ?_
                      refine e_iald 89 dX12_of_88 ar_929 (by omega) (by omega) rfl (fun r88 => ?_)
                      refine e_iret dX12_of_89 ?_
                      first
                        | exact ⟨by omega, hI⟩
                        | (have hq := hC.pl (p := pledge) (by omega) (by omega); exact ⟨by omega, hI⟩))
                · subst b18
                  refine ⟨_, 90, rfl, by decide, ?_⟩
                  first
                   | (exfalso; omega)
                   | (skip
                      refine e_aload_n (i := 0) 91 dX12_of_90 rfl rfl rfl ?_
                      refine e_getr (j := 1) 94 fl_12_13 dX12_of_91 at_928 rfl rfl tp_928_1 rfl ?_
                      refine e_sipush 97 dX12_of_94 (by decide) rfl ?_
                      refine e_iload_n (i := 1) 98 dX12_of_97 rfl rfl rfl ?_
                      refine e_iadd 99 dX12_of_98 rfl ?_
                      refine e_iald 100 dX12_of_99 ar_929 (by omega) (by omega) rfl (fun r99 => ?_)
                      refine e_iret dX12_of_100 ?_
                      first
                        | exact ⟨by omega, hI⟩
                        | (have hq := hC.pl (p := pledge) (by omega) (by omega); exact ⟨by omega, hI⟩))
                · subst b18
                  refine ⟨_, 101, rfl, by decide, ?_⟩
                  first
                   | (exfalso; omega)
                   | (skip
                      refine e_aload_n (i := 0) 102 dX12_of_101 rfl rfl rfl ?_
                      refine e_getr (j := 1) 105 fl_12_13 dX12_of_102 at_928 rfl rfl tp_928_1 rfl ?_
                      refine e_sipush 108 dX12_of_105 (by decide) rfl ?_
                      refine e_iload_n (i := 1) 109 dX12_of_108 rfl rfl rfl ?_
                      refine e_iadd 110 dX12_of_109 rfl ?_
                      refine e_iald 111 dX12_of_110 ar_929 (by omega) (by omega) rfl (fun r110 => ?_)
                      refine e_iret dX12_of_111 ?_
                      first
                        | exact ⟨by omega, hI⟩
                        | (have hq := hC.pl (p := pledge) (by omega) (by omega); exact ⟨by omega, hI⟩))
                · subst b18
                  refine ⟨_, 112, rfl, by decide, ?_⟩
                  first
                   | (exfalso; omega)
                   | (skip
                      refine e_aload_n (i := 0) 113 dX12_of_112 rfl rfl rfl ?_
                      refine e_getr (j := 1) 116 fl_12_13 dX12_of_113 at_928 rfl rfl tp_928_1 rfl ?_
                      refine e_sipush 119 dX12_of_116 (by decide) rfl ?_
                      refine e_iload_n (i := 1) 120 dX12_of_119 rfl rfl rfl ?_
                      refine e_iadd 121 dX12_of_120 rfl ?_
                      refine e_iald 122 dX12_of_121 ar_929 (by omega) (by omega) rfl (fun r121 => ?_)
                      refine e_iret dX12_of_122 ?_
                      first
                        | exact ⟨by omega, hI⟩
                        | (have hq := hC.pl (p := pledge) (by omega) (by omega); exact ⟨by omega, hI⟩))
                · subst b18
                  refine ⟨_, 123, rfl, by decide, ?_⟩
                  first
                   | (exfalso; omega)
                   | (skip
                      refine e_aload_n (i := 0) 124 dX12_of_123 rfl rfl rfl ?_
                      refine e_getr (j := 1) 127 fl_12_13 dX12_of_124 at_928 rfl rfl tp_928_1 rfl ?_
                      refine e_sipush 130 dX12_of_127 (by decide) rfl ?_
                      refine e_iload_n (i := 1) 131 dX12_of_130 rfl rfl rfl ?_
                      refine e_iadd 132 dX12_of_131 rfl ?_
                      refine e_iald 133 dX12_of_132 ar_929 (by omega) (by omega) rfl (fun r132 => ?_)
                      refine e_iret dX12_of_133 ?_
                      first
                        | exact ⟨by omega, hI⟩
                        | (have hq := hC.pl (p := pledge) (by omega) (by omega); exact ⟨by omega, hI⟩))
                · subst b18
                  refine ⟨_, 134, rfl, by decide, ?_⟩
                  first
                   | (exfalso; omega)
                   | (skip
                      refine e_aload_n (i := 0) 135 dX12_of_134 rfl rfl rfl ?_
                      refine e_iload_n (i := 1) 136 dX12_of_135 rfl rfl rfl ?_
                      refine e_callV 139 mt_yX12_isHeld mv_yX12_isHeld wd_1559 (by decide) dX12_of_136 at_928 jc_12 rfl rfl rfl (Nat.le_of_ble_eq_true rfl) (jroom (by decide)) rfl (m_isHeld (by omega) (fun w136 => ?_) (fun w136 => ?_))
                      · dsimp only [jpush]
                        first
                         | (exfalso; omega)
                         | (skip
                            refine e_if_eq 142 146 dX12_of_139 (by decide) (by decide) rfl (fun h => absurd h (by decide)) (fun _ => ?_)
                            refine e_iconst 143 dX12_of_142 rfl ?_
                            refine e_goto 147 dX12_of_143 (by decide) ?_
                            refine e_iret dX12_of_147 ?_
                            first
                              | exact ⟨by omega, hI⟩
                              | (have hq := hC.pl (p := pledge) (by omega) (by omega); exact ⟨by omega, hI⟩))
                      · dsimp only [jpush]
                        first
                         | (exfalso; omega)
                         | (skip
                            refine e_if_eq 142 146 dX12_of_139 (by decide) (by decide) rfl (fun _ => ?_) (fun h => absurd h (by decide))
                            refine e_iconst 147 dX12_of_146 rfl ?_
                            refine e_iret dX12_of_147 ?_
                            first
                              | exact ⟨by omega, hI⟩
                              | (have hq := hC.pl (p := pledge) (by omega) (by omega); exact ⟨by omega, hI⟩)))
                · subst b18
                  refine ⟨_, 148, rfl, by decide, ?_⟩
                  first
                   | (exfalso; omega)
                   | (skip
                      refine e_aload_n (i := 0) 149 dX12_of_148 rfl rfl rfl ?_
                      refine e_iload_n (i := 1) 150 dX12_of_149 rfl rfl rfl ?_
                      refine e_callV 153 mt_yX12_mothedLow mv_yX12_mothedLow wd_1591 (by decide) dX12_of_150 at_928 jc_12 rfl rfl rfl (Nat.le_of_ble_eq_true rfl) (jroom (by decide)) rfl (m_mothedLow (hC.1.okM (by omega) (by omega)) (hC.1.low (by omega) (by omega)) ?_)
                      dsimp only [jpush]
                      refine e_iret dX12_of_153 ?_
                      first
                        | exact ⟨by omega, hI⟩
                        | (have hq := hC.pl (p := pledge) (by omega) (by omega); exact ⟨by omega, hI⟩))
                · subst b18
                  refine ⟨_, 154, rfl, by decide, ?_⟩
                  first
                   | (exfalso; omega)
                   | (skip
                      have hpr := hC.plr (p := pledge) (by omega) (by omega)
                      refine e_aload_n (i := 0) 155 dX12_of_154 rfl rfl rfl ?_
                      refine e_iload_n (i := 1) 156 dX12_of_155 rfl rfl rfl ?_
                      refine e_aload_n (i := 0) 157 dX12_of_156 rfl rfl rfl ?_
                      refine e_getr (j := 1) 160 fl_12_13 dX12_of_157 at_928 rfl rfl tp_928_1 rfl ?_
                      refine e_sipush 163 dX12_of_160 (by decide) rfl ?_
                      refine e_aload_n (i := 0) 164 dX12_of_163 rfl rfl rfl ?_
                      refine e_getr (j := 1) 167 fl_12_13 dX12_of_164 at_928 rfl rfl tp_928_1 rfl ?_
                      refine e_sipush 170 dX12_of_167 (by decide) rfl ?_
                      refine e_iload_n (i := 1) 171 dX12_of_170 rfl rfl rfl ?_
                      refine e_iadd 172 dX12_of_171 rfl ?_
                      refine e_iald 173 dX12_of_172 ar_929 (by omega) (by omega) rfl (fun r172 => ?_)
                      refine e_iadd 174 dX12_of_173 rfl ?_
                      refine e_iald 175 dX12_of_174 ar_929 (by omega) (by omega) rfl (fun r174 => ?_)
                      refine e_callV 178 mt_yX12_mothed mv_yX12_mothed wd_1595 (by decide) dX12_of_175 at_928 jc_12 rfl rfl rfl (Nat.le_of_ble_eq_true rfl) (jroom (by decide)) rfl (m_mothed (hC.1.okM (by omega) (by omega)) (hC.1.high (by omega) (by omega)) ?_)
                      dsimp only [jpush]
                      refine e_iret dX12_of_178 ?_
                      first
                        | exact ⟨by omega, hI⟩
                        | (have hq := hC.pl (p := pledge) (by omega) (by omega); exact ⟨by omega, hI⟩))
              · skip
                refine e_sipush 182 dX12_of_179 (by decide) rfl ?_
                refine e_iret dX12_of_182 ?_
                first
                  | exact ⟨by omega, hI⟩
                  | (have hq := hC.pl (p := pledge) (by omega) (by omega); exact ⟨by omega, hI⟩))
        · dsimp only [jpush]
          first
           | (exfalso; omega)
           | (skip
              refine e_if_ne 13 17 dX12_of_10 (by decide) (by decide) rfl (fun h => absurd h (by decide)) (fun _ => ?_)
              refine e_sipush 16 dX12_of_13 (by decide) rfl ?_
              refine e_iret dX12_of_16 ?_
              first
                | exact ⟨by omega, hI⟩
                | (have hq := hC.pl (p := pledge) (by omega) (by omega); exact ⟨by omega, hI⟩))
      · subst b26
        refine ⟨_, 106, rfl, by decide, ?_⟩
        refine e_aload_n (i := 0) 107 dX11_of_106 rfl rfl rfl ?_
        refine e_getr (j := 0) 110 fl_11_10 dX11_of_107 at_0 rfl rfl tp_0_0 rfl ?_
        refine e_aload_n (i := 3) 111 dX11_of_110 rfl rfl rfl ?_
        refine e_callV 114 mt_yX8_isHeld mv_yX8_isHeld wd_831 (by decide) dX11_of_111 at_1 jc_8 rfl rfl rfl (Nat.le_of_ble_eq_true rfl) (jroom (by decide)) rfl (c_isHeld (by omega) (fun w111 => ?_) (fun w111 => ?_))
        · dsimp only [jpush]
          refine e_if_eq 117 121 dX11_of_114 (by decide) (by decide) rfl (fun h => absurd h (by decide)) (fun _ => ?_)
          refine e_iconst 118 dX11_of_117 rfl ?_
          refine e_goto 122 dX11_of_118 (by decide) ?_
          refine e_iret dX11_of_122 ?_
          refine jCt_of mt_yX12_of (Nat.le_of_ble_eq_true rfl) (fun X2 => ?_)
          refine e_aload_n (i := 0) 1 dX12_of_0 rfl rfl rfl ?_
          refine e_iconst 2 dX12_of_1 rfl ?_
          refine e_put0 (j := 0) 5 fl_12_1 dX12_of_2 at_928 rfl rfl rfl (by decide) hI.1 rfl ?_
          refine e_aload_n (i := 0) 6 dX12_of_5 rfl rfl rfl ?_
          refine e_iload_n (i := 1) 7 dX12_of_6 rfl rfl rfl ?_
          refine e_callV 10 mt_yX12_isPledge mv_yX12_isPledge wd_1579 (by decide) dX12_of_7 at_928 jc_12 rfl rfl rfl (Nat.le_of_ble_eq_true rfl) (jroom (by decide)) rfl (m_isPledge (by omega) (fun w7 => ?_) (fun w7 => ?_))
          · dsimp only [jpush]
            first
             | (exfalso; omega)
             | (skip
                refine e_if_ne 13 17 dX12_of_10 (by decide) (by decide) rfl (fun _ => ?_) (fun h => absurd h (by decide))
                refine e_iload_n (i := 2) 18 dX12_of_17 rfl rfl rfl ?_
                refine e_tsw 179 dX12_of_18 (by omega) (by decide) (fun c0 hc0 hz0 => ?_) (fun b18 => ?_)
                · have hcc : c0 = 0 ∨ c0 = 1 ∨ c0 = 2 ∨ c0 = 3 ∨ c0 = 4 ∨ c0 = 5 ∨ c0 = 6 ∨ c0 = 7 ∨ c0 = 8 := by omega
                  rcases hcc with b18 | b18 | b18 | b18 | b18 | b18 | b18 | b18 | b18
                  · subst b18
                    refine ⟨_, 68, rfl, by decide, ?_⟩
                    first
                     | (exfalso; omega)
                     | (skip
                        refine e_aload_n (i := 0) 69 dX12_of_68 rfl rfl rfl ?_
                        refine e_getr (j := 1) 72 fl_12_13 dX12_of_69 at_928 rfl rfl tp_928_1 rfl ?_
                        refine e_sipush 75 dX12_of_72 (by decide) rfl ?_
                        refine e_iload_n (i := 1) 76 dX12_of_75 rfl rfl rfl ?_
                        refine e_iadd 77 dX12_of_76 rfl ?_
                        refine e_iald 78 dX12_of_77 ar_929 (by omega) (by omega) rfl (fun r77 => ?_)
                        refine e_iret dX12_of_78 ?_
                        first
                          | exact ⟨by omega, hI⟩
                          | (have hq := hC.pl (p := pledge) (by omega) (by omega); exact ⟨by omega, hI⟩))
                  · subst b18
                    refine ⟨_, 79, rfl, by decide, ?_⟩
                    first
                     | (exfalso; omega)
                     | (skip
                        refine e_aload_n (i := 0) 80 dX12_of_79 rfl rfl rfl ?_
                        refine e_getr (j := 1) 83 fl_12_13 dX12_of_80 at_928 rfl rfl tp_928_1 rfl ?_
                        refine e_sipush 86 dX12_of_83 (by decide) rfl ?_
                        refine e_iload_n (i := 1) 87 dX12_of_86 rfl rfl rfl ?_
                        refine e_iadd 88 dX12_of_87 rfl ?_
                        refine e_iald 89 dX12_of_88 ar_929 (by omega) (by omega) rfl (fun r88 => ?_)
                        refine e_iret dX12_of_89 ?_
                        first
                          | exact ⟨by omega, hI⟩
                          | (have hq := hC.pl (p := pledge) (by omega) (by omega); exact ⟨by omega, hI⟩))
                  · subst b18
                    refine ⟨_, 90, rfl, by decide, ?_⟩
                    first
                     | (exfalso; omega)
                     | (skip
                        refine e_aload_n (i := 0) 91 dX12_of_90 rfl rfl rfl ?_
                        refine e_getr (j := 1) 94 fl_12_13 dX12_of_91 at_928 rfl rfl tp_928_1 rfl ?_
                        refine e_sipush 97 dX12_of_94 (by decide) rfl ?_
                        refine e_iload_n (i := 1) 98 dX12_of_97 rfl rfl rfl ?_
                        refine e_iadd 99 dX12_of_98 rfl ?_
                        refine e_iald 100 dX12_of_99 ar_929 (by omega) (by omega) rfl (fun r99 => ?_)
                        refine e_iret dX12_of_100 ?_
                        first
                          | exact ⟨by omega, hI⟩
                          | (have hq := hC.pl (p := pledge) (by omega) (by omega); exact ⟨by omega, hI⟩))
                  · subst b18
                    refine ⟨_, 101, rfl, by decide, ?_⟩
                    first
                     | (exfalso; omega)
                     | (skip
                        refine e_aload_n (i := 0) 102 dX12_of_101 rfl rfl rfl ?_
                        refine e_getr (j := 1) 105 fl_12_13 dX12_of_102 at_928 rfl rfl tp_928_1 rfl ?_
                        refine e_sipush 108 dX12_of_105 (by decide) rfl ?_
                        refine e_iload_n (i := 1) 109 dX12_of_108 rfl rfl rfl ?_
                        refine e_iadd 110 dX12_of_109 rfl ?_
                        refine e_iald 111 dX12_of_110 ar_929 (by omega) (by omega) rfl (fun r110 => ?_)
                        refine e_iret dX12_of_111 ?_
                        first
                          | exact ⟨by omega, hI⟩
                          | (have hq := hC.pl (p := pledge) (by omega) (by omega); exact ⟨by omega, hI⟩))
                  · subst b18
                    refine ⟨_, 112, rfl, by decide, ?_⟩
                    first
                     | (exfalso; omega)
                     | (skip
                        refine e_aload_n (i := 0) 113 dX12_of_112 rfl rfl rfl ?_
                        refine e_getr (j := 1) 116 fl_12_13 dX12_of_113 at_928 rfl rfl tp_928_1 rfl ?_
                        refine e_sipush 119 dX12_of_116 (by decide) rfl ?_
                        refine e_iload_n (i := 1) 120 dX12_of_119 rfl rfl rfl ?_
                        refine e_iadd 121 dX12_of_120 rfl ?_
                        refine e_iald 122 dX12_of_121 ar_929 (by omega) (by omega) rfl (fun r121 => ?_)
                        refine e_iret dX12_of_122 ?_
                        first
                          | exact ⟨by omega, hI⟩
                          | (have hq := hC.pl (p := pledge) (by omega) (by omega); exact ⟨by omega, hI⟩))
                  · subst b18
                    refine ⟨_, 123, rfl, by decide, ?_⟩
                    first
                     | (exfalso; omega)
                     | (skip
                        refine e_aload_n (i := 0) 124 dX12_of_123 rfl rfl rfl ?_
                        refine e_getr (j := 1) 127 fl_12_13 dX12_of_124 at_928 rfl rfl tp_928_1 rfl ?_
                        refine e_sipush 130 dX12_of_127 (by decide) rfl ?_
                        refine e_iload_n (i := 1) 131 dX12_of_130 rfl rfl rfl ?_
                        refine e_iadd 132 dX12_of_131 rfl ?_
                        refine e_iald 133 dX12_of_132 ar_929 (by omega) (by omega) rfl (fun r132 => ?_)
                        refine e_iret dX12_of_133 ?_
                        first
                          | exact ⟨by omega, hI⟩
                          | (have hq := hC.pl (p := pledge) (by omega) (by omega); exact ⟨by omega, hI⟩))
                  · subst b18
                    refine ⟨_, 134, rfl, by decide, ?_⟩
                    first
                     | (exfalso; omega)
                     | (skip
                        refine e_aload_n (i := 0) 135 dX12_of_134 rfl rfl rfl ?_
                        refine e_iload_n (i := 1) 136 dX12_of_135 rfl rfl rfl ?_
                        refine e_callV 139 mt_yX12_isHeld mv_yX12_isHeld wd_1559 (by decide) dX12_of_136 at_928 jc_12 rfl rfl rfl (Nat.le_of_ble_eq_true rfl) (jroom (by decide)) rfl (m_isHeld (by omega) (fun w136 => ?_) (fun w136 => ?_))
                        · dsimp only [jpush]
                          first
                           | (exfalso; omega)
                           | (skip
                              refine e_if_eq 142 146 dX12_of_139 (by decide) (by decide) rfl (fun h => absurd h (by decide)) (fun _ => ?_)
                              refine e_iconst 143 dX12_of_142 rfl ?_
                              refine e_goto 147 dX12_of_143 (by decide) ?_
                              refine e_iret dX12_of_147 ?_
                              first
                                | exact ⟨by omega, hI⟩
                                | (have hq := hC.pl (p := pledge) (by omega) (by omega); exact ⟨by omega, hI⟩))
                        · dsimp only [jpush]
                          first
                           | (exfalso; omega)
                           | (skip
                              refine e_if_eq 142 146 dX12_of_139 (by decide) (by decide) rfl (fun _ => ?_) (fun h => absurd h (by decide))
                              refine e_iconst 147 dX12_of_146 rfl ?_
                              refine e_iret dX12_of_147 ?_
                              first
                                | exact ⟨by omega, hI⟩
                                | (have hq := hC.pl (p := pledge) (by omega) (by omega); exact ⟨by omega, hI⟩)))
                  · subst b18
                    refine ⟨_, 148, rfl, by decide, ?_⟩
                    first
                     | (exfalso; omega)
                     | (skip
                        refine e_aload_n (i := 0) 149 dX12_of_148 rfl rfl rfl ?_
                        refine e_iload_n (i := 1) 150 dX12_of_149 rfl rfl rfl ?_
                        refine e_callV 153 mt_yX12_mothedLow mv_yX12_mothedLow wd_1591 (by decide) dX12_of_150 at_928 jc_12 rfl rfl rfl (Nat.le_of_ble_eq_true rfl) (jroom (by decide)) rfl (m_mothedLow (hC.1.okM (by omega) (by omega)) (hC.1.low (by omega) (by omega)) ?_)
                        dsimp only [jpush]
                        refine e_iret dX12_of_153 ?_
                        first
                          | exact ⟨by omega, hI⟩
                          | (have hq := hC.pl (p := pledge) (by omega) (by omega); exact ⟨by omega, hI⟩))
                  · subst b18
                    refine ⟨_, 154, rfl, by decide, ?_⟩
                    first
                     | (exfalso; omega)
                     | (skip
                        have hpr := hC.plr (p := pledge) (by omega) (by omega)
                        refine e_aload_n (i := 0) 155 dX12_of_154 rfl rfl rfl ?_
                        refine e_iload_n (i := 1) 156 dX12_of_155 rfl rfl rfl ?_
                        refine e_aload_n (i := 0) 157 dX12_of_156 rfl rfl rfl ?_
                        refine e_getr (j := 1) 160 fl_12_13 dX12_of_157 at_928 rfl rfl tp_928_1 rfl ?_
                        refine e_sipush 163 dX12_of_160 (by decide) rfl ?_
                        refine e_aload_n (i := 0) 164 dX12_of_163 rfl rfl rfl ?_
                        refine e_getr (j := 1) 167 fl_12_13 dX12_of_164 at_928 rfl rfl tp_928_1 rfl ?_
                        refine e_sipush 170 dX12_of_167 (by decide) rfl ?_
                        refine e_iload_n (i := 1) 171 dX12_of_170 rfl rfl rfl ?_
                        refine e_iadd 172 dX12_of_171 rfl ?_
                        refine e_iald 173 dX12_of_172 ar_929 (by omega) (by omega) rfl (fun r172 => ?_)
                        refine e_iadd 174 dX12_of_173 rfl ?_
                        refine e_iald 175 dX12_of_174 ar_929 (by omega) (by omega) rfl (fun r174 => ?_)
                        refine e_callV 178 mt_yX12_mothed mv_yX12_mothed wd_1595 (by decide) dX12_of_175 at_928 jc_12 rfl rfl rfl (Nat.le_of_ble_eq_true rfl) (jroom (by decide)) rfl (m_mothed (hC.1.okM (by omega) (by omega)) (hC.1.high (by omega) (by omega)) ?_)
                        dsimp only [jpush]
                        refine e_iret dX12_of_178 ?_
                        first
                          | exact ⟨by omega, hI⟩
                          | (have hq := hC.pl (p := pledge) (by omega) (by omega); exact ⟨by omega, hI⟩))
                · skip
                  refine e_sipush 182 dX12_of_179 (by decide) rfl ?_
                  refine e_iret dX12_of_182 ?_
                  first
                    | exact ⟨by omega, hI⟩
                    | (have hq := hC.pl (p := pledge) (by omega) (by omega); exact ⟨by omega, hI⟩))
          · dsimp only [jpush]
            first
             | (exfalso; omega)
             | (skip
                refine e_if_ne 13 17 dX12_of_10 (by decide) (by decide) rfl (fun h => absurd h (by decide)) (fun _ => ?_)
                refine e_sipush 16 dX12_of_13 (by decide) rfl ?_
                refine e_iret dX12_of_16 ?_
                first
                  | exact ⟨by omega, hI⟩
                  | (have hq := hC.pl (p := pledge) (by omega) (by omega); exact ⟨by omega, hI⟩))
        · dsimp only [jpush]
          refine e_if_eq 117 121 dX11_of_114 (by decide) (by decide) rfl (fun _ => ?_) (fun h => absurd h (by decide))
          refine e_iconst 122 dX11_of_121 rfl ?_
          refine e_iret dX11_of_122 ?_
          refine jCt_of mt_yX12_of (Nat.le_of_ble_eq_true rfl) (fun X2 => ?_)
          refine e_aload_n (i := 0) 1 dX12_of_0 rfl rfl rfl ?_
          refine e_iconst 2 dX12_of_1 rfl ?_
          refine e_put0 (j := 0) 5 fl_12_1 dX12_of_2 at_928 rfl rfl rfl (by decide) hI.1 rfl ?_
          refine e_aload_n (i := 0) 6 dX12_of_5 rfl rfl rfl ?_
          refine e_iload_n (i := 1) 7 dX12_of_6 rfl rfl rfl ?_
          refine e_callV 10 mt_yX12_isPledge mv_yX12_isPledge wd_1579 (by decide) dX12_of_7 at_928 jc_12 rfl rfl rfl (Nat.le_of_ble_eq_true rfl) (jroom (by decide)) rfl (m_isPledge (by omega) (fun w7 => ?_) (fun w7 => ?_))
          · dsimp only [jpush]
            first
             | (exfalso; omega)
             | (skip
                refine e_if_ne 13 17 dX12_of_10 (by decide) (by decide) rfl (fun _ => ?_) (fun h => absurd h (by decide))
                refine e_iload_n (i := 2) 18 dX12_of_17 rfl rfl rfl ?_
                refine e_tsw 179 dX12_of_18 (by omega) (by decide) (fun c0 hc0 hz0 => ?_) (fun b18 => ?_)
                · have hcc : c0 = 0 ∨ c0 = 1 ∨ c0 = 2 ∨ c0 = 3 ∨ c0 = 4 ∨ c0 = 5 ∨ c0 = 6 ∨ c0 = 7 ∨ c0 = 8 := by omega
                  rcases hcc with b18 | b18 | b18 | b18 | b18 | b18 | b18 | b18 | b18
                  · subst b18
                    refine ⟨_, 68, rfl, by decide, ?_⟩
                    first
                     | (exfalso; omega)
                     | (skip
                        refine e_aload_n (i := 0) 69 dX12_of_68 rfl rfl rfl ?_
                        refine e_getr (j := 1) 72 fl_12_13 dX12_of_69 at_928 rfl rfl tp_928_1 rfl ?_
                        refine e_sipush 75 dX12_of_72 (by decide) rfl ?_
                        refine e_iload_n (i := 1) 76 dX12_of_75 rfl rfl rfl ?_
                        refine e_iadd 77 dX12_of_76 rfl ?_
                        refine e_iald 78 dX12_of_77 ar_929 (by omega) (by omega) rfl (fun r77 => ?_)
                        refine e_iret dX12_of_78 ?_
                        first
                          | exact ⟨by omega, hI⟩
                          | (have hq := hC.pl (p := pledge) (by omega) (by omega); exact ⟨by omega, hI⟩))
                  · subst b18
                    refine ⟨_, 79, rfl, by decide, ?_⟩
                    first
                     | (exfalso; omega)
                     | (skip
                        refine e_aload_n (i := 0) 80 dX12_of_79 rfl rfl rfl ?_
                        refine e_getr (j := 1) 83 fl_12_13 dX12_of_80 at_928 rfl rfl tp_928_1 rfl ?_
                        refine e_sipush 86 dX12_of_83 (by decide) rfl ?_
                        refine e_iload_n (i := 1) 87 dX12_of_86 rfl rfl rfl ?_
                        refine e_iadd 88 dX12_of_87 rfl ?_
                        refine e_iald 89 dX12_of_88 ar_929 (by omega) (by omega) rfl (fun r88 => ?_)
                        refine e_iret dX12_of_89 ?_
                        first
                          | exact ⟨by omega, hI⟩
                          | (have hq := hC.pl (p := pledge) (by omega) (by omega); exact ⟨by omega, hI⟩))
                  · subst b18
                    refine ⟨_, 90, rfl, by decide, ?_⟩
                    first
                     | (exfalso; omega)
                     | (skip
                        refine e_aload_n (i := 0) 91 dX12_of_90 rfl rfl rfl ?_
                        refine e_getr (j := 1) 94 fl_12_13 dX12_of_91 at_928 rfl rfl tp_928_1 rfl ?_
                        refine e_sipush 97 dX12_of_94 (by decide) rfl ?_
                        refine e_iload_n (i := 1) 98 dX12_of_97 rfl rfl rfl ?_
                        refine e_iadd 99 dX12_of_98 rfl ?_
                        refine e_iald 100 dX12_of_99 ar_929 (by omega) (by omega) rfl (fun r99 => ?_)
                        refine e_iret dX12_of_100 ?_
                        first
                          | exact ⟨by omega, hI⟩
                          | (have hq := hC.pl (p := pledge) (by omega) (by omega); exact ⟨by omega, hI⟩))
                  · subst b18
                    refine ⟨_, 101, rfl, by decide, ?_⟩
                    first
                     | (exfalso; omega)
                     | (skip
                        refine e_aload_n (i := 0) 102 dX12_of_101 rfl rfl rfl ?_
                        refine e_getr (j := 1) 105 fl_12_13 dX12_of_102 at_928 rfl rfl tp_928_1 rfl ?_
                        refine e_sipush 108 dX12_of_105 (by decide) rfl ?_
                        refine e_iload_n (i := 1) 109 dX12_of_108 rfl rfl rfl ?_
                        refine e_iadd 110 dX12_of_109 rfl ?_
                        refine e_iald 111 dX12_of_110 ar_929 (by omega) (by omega) rfl (fun r110 => ?_)
                        refine e_iret dX12_of_111 ?_
                        first
                          | exact ⟨by omega, hI⟩
                          | (have hq := hC.pl (p := pledge) (by omega) (by omega); exact ⟨by omega, hI⟩))
                  · subst b18
                    refine ⟨_, 112, rfl, by decide, ?_⟩
                    first
                     | (exfalso; omega)
                     | (skip
                        refine e_aload_n (i := 0) 113 dX12_of_112 rfl rfl rfl ?_
                        refine e_getr (j := 1) 116 fl_12_13 dX12_of_113 at_928 rfl rfl tp_928_1 rfl ?_
                        refine e_sipush 119 dX12_of_116 (by decide) rfl ?_
                        refine e_iload_n (i := 1) 120 dX12_of_119 rfl rfl rfl ?_
                        refine e_iadd 121 dX12_of_120 rfl ?_
                        refine e_iald 122 dX12_of_121 ar_929 (by omega) (by omega) rfl (fun r121 => ?_)
                        refine e_iret dX12_of_122 ?_
                        first
                          | exact ⟨by omega, hI⟩
                          | (have hq := hC.pl (p := pledge) (by omega) (by omega); exact ⟨by omega, hI⟩))
                  · subst b18
                    refine ⟨_, 123, rfl, by decide, ?_⟩
                    first
                     | (exfalso; omega)
                     | (skip
                        refine e_aload_n (i := 0) 124 dX12_of_123 rfl rfl rfl ?_
                        refine e_getr (j := 1) 127 fl_12_13 dX12_of_124 at_928 rfl rfl tp_928_1 rfl ?_
                        refine e_sipush 130 dX12_of_127 (by decide) rfl ?_
                        refine e_iload_n (i := 1) 131 dX12_of_130 rfl rfl rfl ?_
                        refine e_iadd 132 dX12_of_131 rfl ?_
                        refine e_iald 133 dX12_of_132 ar_929 (by omega) (by omega) rfl (fun r132 => ?_)
                        refine e_iret dX12_of_133 ?_
                        first
                          | exact ⟨by omega, hI⟩
                          | (have hq := hC.pl (p := pledge) (by omega) (by omega); exact ⟨by omega, hI⟩))
                  · subst b18
                    refine ⟨_, 134, rfl, by decide, ?_⟩
                    first
                     | (exfalso; omega)
                     | (skip
                        refine e_aload_n (i := 0) 135 dX12_of_134 rfl rfl rfl ?_
                        refine e_iload_n (i := 1) 136 dX12_of_135 rfl rfl rfl ?_
                        refine e_callV 139 mt_yX12_isHeld mv_yX12_isHeld wd_1559 (by decide) dX12_of_136 at_928 jc_12 rfl rfl rfl (Nat.le_of_ble_eq_true rfl) (jroom (by decide)) rfl (m_isHeld (by omega) (fun w136 => ?_) (fun w136 => ?_))
                        · dsimp only [jpush]
                          first
                           | (exfalso; omega)
                           | (skip
                              refine e_if_eq 142 146 dX12_of_139 (by decide) (by decide) rfl (fun h => absurd h (by decide)) (fun _ => ?_)
                              refine e_iconst 143 dX12_of_142 rfl ?_
                              refine e_goto 147 dX12_of_143 (by decide) ?_
                              refine e_iret dX12_of_147 ?_
                              first
                                | exact ⟨by omega, hI⟩
                                | (have hq := hC.pl (p := pledge) (by omega) (by omega); exact ⟨by omega, hI⟩))
                        · dsimp only [jpush]
                          first
                           | (exfalso; omega)
                           | (skip
                              refine e_if_eq 142 146 dX12_of_139 (by decide) (by decide) rfl (fun _ => ?_) (fun h => absurd h (by decide))
                              refine e_iconst 147 dX12_of_146 rfl ?_
                              refine e_iret dX12_of_147 ?_
                              first
                                | exact ⟨by omega, hI⟩
                                | (have hq := hC.pl (p := pledge) (by omega) (by omega); exact ⟨by omega, hI⟩)))
                  · subst b18
                    refine ⟨_, 148, rfl, by decide, ?_⟩
                    first
                     | (exfalso; omega)
                     | (skip
                        refine e_aload_n (i := 0) 149 dX12_of_148 rfl rfl rfl ?_
                        refine e_iload_n (i := 1) 150 dX12_of_149 rfl rfl rfl ?_
                        refine e_callV 153 mt_yX12_mothedLow mv_yX12_mothedLow wd_1591 (by decide) dX12_of_150 at_928 jc_12 rfl rfl rfl (Nat.le_of_ble_eq_true rfl) (jroom (by decide)) rfl (m_mothedLow (hC.1.okM (by omega) (by omega)) (hC.1.low (by omega) (by omega)) ?_)
                        dsimp only [jpush]
                        refine e_iret dX12_of_153 ?_
                        first
                          | exact ⟨by omega, hI⟩
                          | (have hq := hC.pl (p := pledge) (by omega) (by omega); exact ⟨by omega, hI⟩))
                  · subst b18
                    refine ⟨_, 154, rfl, by decide, ?_⟩
                    first
                     | (exfalso; omega)
                     | (skip
                        have hpr := hC.plr (p := pledge) (by omega) (by omega)
                        refine e_aload_n (i := 0) 155 dX12_of_154 rfl rfl rfl ?_
                        refine e_iload_n (i := 1) 156 dX12_of_155 rfl rfl rfl ?_
                        refine e_aload_n (i := 0) 157 dX12_of_156 rfl rfl rfl ?_
                        refine e_getr (j := 1) 160 fl_12_13 dX12_of_157 at_928 rfl rfl tp_928_1 rfl ?_
                        refine e_sipush 163 dX12_of_160 (by decide) rfl ?_
                        refine e_aload_n (i := 0) 164 dX12_of_163 rfl rfl rfl ?_
                        refine e_getr (j := 1) 167 fl_12_13 dX12_of_164 at_928 rfl rfl tp_928_1 rfl ?_
                        refine e_sipush 170 dX12_of_167 (by decide) rfl ?_
                        refine e_iload_n (i := 1) 171 dX12_of_170 rfl rfl rfl ?_
                        refine e_iadd 172 dX12_of_171 rfl ?_
                        refine e_iald 173 dX12_of_172 ar_929 (by omega) (by omega) rfl (fun r172 => ?_)
                        refine e_iadd 174 dX12_of_173 rfl ?_
                        refine e_iald 175 dX12_of_174 ar_929 (by omega) (by omega) rfl (fun r174 => ?_)
                        refine e_callV 178 mt_yX12_mothed mv_yX12_mothed wd_1595 (by decide) dX12_of_175 at_928 jc_12 rfl rfl rfl (Nat.le_of_ble_eq_true rfl) (jroom (by decide)) rfl (m_mothed (hC.1.okM (by omega) (by omega)) (hC.1.high (by omega) (by omega)) ?_)
                        dsimp only [jpush]
                        refine e_iret dX12_of_178 ?_
                        first
                          | exact ⟨by omega, hI⟩
                          | (have hq := hC.pl (p := pledge) (by omega) (by omega); exact ⟨by omega, hI⟩))
                · skip
                  refine e_sipush 182 dX12_of_179 (by decide) rfl ?_
                  refine e_iret dX12_of_182 ?_
                  first
                    | exact ⟨by omega, hI⟩
                    | (have hq := hC.pl (p := pledge) (by omega) (by omega); exact ⟨by omega, hI⟩))
          · dsimp only [jpush]
            first
             | (exfalso; omega)
             | (skip
                refine e_if_ne 13 17 dX12_of_10 (by decide) (by decide) rfl (fun h => absurd h (by decide)) (fun _ => ?_)
                refine e_sipush 16 dX12_of_13 (by decide) rfl ?_
                refine e_iret dX12_of_16 ?_
                first
                  | exact ⟨by omega, hI⟩
                  | (have hq := hC.pl (p := pledge) (by omega) (by omega); exact ⟨by omega, hI⟩))
      · subst b26
        refine ⟨_, 123, rfl, by decide, ?_⟩
        refine e_aload_n (i := 0) 124 dX11_of_123 rfl rfl rfl ?_
        refine e_getr (j := 0) 127 fl_11_10 dX11_of_124 at_0 rfl rfl tp_0_0 rfl ?_
        refine e_aload_n (i := 3) 128 dX11_of_127 rfl rfl rfl ?_
        refine e_callV 131 mt_yX8_mothedLow mv_yX8_mothedLow wd_867 (by decide) dX11_of_128 at_1 jc_8 rfl rfl rfl (Nat.le_of_ble_eq_true rfl) (jroom (by decide)) rfl (c_mothedLow hC (by omega) (by omega) ?_)
        dsimp only [jpush]
        refine e_iret dX11_of_131 ?_
        refine jCt_of mt_yX12_of (Nat.le_of_ble_eq_true rfl) (fun X2 => ?_)
        refine e_aload_n (i := 0) 1 dX12_of_0 rfl rfl rfl ?_
        refine e_iconst 2 dX12_of_1 rfl ?_
        refine e_put0 (j := 0) 5 fl_12_1 dX12_of_2 at_928 rfl rfl rfl (by decide) hI.1 rfl ?_
        refine e_aload_n (i := 0) 6 dX12_of_5 rfl rfl rfl ?_
        refine e_iload_n (i := 1) 7 dX12_of_6 rfl rfl rfl ?_
        refine e_callV 10 mt_yX12_isPledge mv_yX12_isPledge wd_1579 (by decide) dX12_of_7 at_928 jc_12 rfl rfl rfl (Nat.le_of_ble_eq_true rfl) (jroom (by decide)) rfl (m_isPledge (by omega) (fun w7 => ?_) (fun w7 => ?_))
        · dsimp only [jpush]
          first
           | (exfalso; omega)
           | (skip
              refine e_if_ne 13 17 dX12_of_10 (by decide) (by decide) rfl (fun _ => ?_) (fun h => absurd h (by decide))
              refine e_iload_n (i := 2) 18 dX12_of_17 rfl rfl rfl ?_
              refine e_tsw 179 dX12_of_18 (by omega) (by decide) (fun c0 hc0 hz0 => ?_) (fun b18 => ?_)
              · have hcc : c0 = 0 ∨ c0 = 1 ∨ c0 = 2 ∨ c0 = 3 ∨ c0 = 4 ∨ c0 = 5 ∨ c0 = 6 ∨ c0 = 7 ∨ c0 = 8 := by omega
                rcases hcc with b18 | b18 | b18 | b18 | b18 | b18 | b18 | b18 | b18
                · subst b18
                  refine ⟨_, 68, rfl, by decide, ?_⟩
                  first
                   | (exfalso; omega)
                   | (skip
                      refine e_aload_n (i := 0) 69 dX12_of_68 rfl rfl rfl ?_
                      refine e_getr (j := 1) 72 fl_12_13 dX12_of_69 at_928 rfl rfl tp_928_1 rfl ?_
                      refine e_sipush 75 dX12_of_72 (by decide) rfl ?_
                      refine e_iload_n (i := 1) 76 dX12_of_75 rfl rfl rfl ?_
                      refine e_iadd 77 dX12_of_76 rfl ?_
                      refine e_iald 78 dX12_of_77 ar_929 (by omega) (by omega) rfl (fun r77 => ?_)
                      refine e_iret dX12_of_78 ?_
                      first
                        | exact ⟨by omega, hI⟩
                        | (have hq := hC.pl (p := pledge) (by omega) (by omega); exact ⟨by omega, hI⟩))
                · subst b18
                  refine ⟨_, 79, rfl, by decide, ?_⟩
                  first
                   | (exfalso; omega)
                   | (skip
                      refine e_aload_n (i := 0) 80 dX12_of_79 rfl rfl rfl ?_
                      refine e_getr (j := 1) 83 fl_12_13 dX12_of_80 at_928 rfl rfl tp_928_1 rfl ?_
                      refine e_sipush 86 dX12_of_83 (by decide) rfl ?_
                      refine e_iload_n (i := 1) 87 dX12_of_86 rfl rfl rfl ?_
                      refine e_iadd 88 dX12_of_87 rfl ?_
                      refine e_iald 89 dX12_of_88 ar_929 (by omega) (by omega) rfl (fun r88 => ?_)
                      refine e_iret dX12_of_89 ?_
                      first
                        | exact ⟨by omega, hI⟩
                        | (have hq := hC.pl (p := pledge) (by omega) (by omega); exact ⟨by omega, hI⟩))
                · subst b18
                  refine ⟨_, 90, rfl, by decide, ?_⟩
                  first
                   | (exfalso; omega)
                   | (skip
                      refine e_aload_n (i := 0) 91 dX12_of_90 rfl rfl rfl ?_
                      refine e_getr (j := 1) 94 fl_12_13 dX12_of_91 at_928 rfl rfl tp_928_1 rfl ?_
                      refine e_sipush 97 dX12_of_94 (by decide) rfl ?_
                      refine e_iload_n (i := 1) 98 dX12_of_97 rfl rfl rfl ?_
                      refine e_iadd 99 dX12_of_98 rfl ?_
                      refine e_iald 100 dX12_of_99 ar_929 (by omega) (by omega) rfl (fun r99 => ?_)
                      refine e_iret dX12_of_100 ?_
                      first
                        | exact ⟨by omega, hI⟩
                        | (have hq := hC.pl (p := pledge) (by omega) (by omega); exact ⟨by omega, hI⟩))
                · subst b18
                  refine ⟨_, 101, rfl, by decide, ?_⟩
                  first
                   | (exfalso; omega)
                   | (skip
                      refine e_aload_n (i := 0) 102 dX12_of_101 rfl rfl rfl ?_
                      refine e_getr (j := 1) 105 fl_12_13 dX12_of_102 at_928 rfl rfl tp_928_1 rfl ?_
                      refine e_sipush 108 dX12_of_105 (by decide) rfl ?_
                      refine e_iload_n (i := 1) 109 dX12_of_108 rfl rfl rfl ?_
                      refine e_iadd 110 dX12_of_109 rfl ?_
                      refine e_iald 111 dX12_of_110 ar_929 (by omega) (by omega) rfl (fun r110 => ?_)
                      refine e_iret dX12_of_111 ?_
                      first
                        | exact ⟨by omega, hI⟩
                        | (have hq := hC.pl (p := pledge) (by omega) (by omega); exact ⟨by omega, hI⟩))
                · subst b18
                  refine ⟨_, 112, rfl, by decide, ?_⟩
                  first
                   | (exfalso; omega)
                   | (skip
                      refine e_aload_n (i := 0) 113 dX12_of_112 rfl rfl rfl ?_
                      refine e_getr (j := 1) 116 fl_12_13 dX12_of_113 at_928 rfl rfl tp_928_1 rfl ?_
                      refine e_sipush 119 dX12_of_116 (by decide) rfl ?_
                      refine e_iload_n (i := 1) 120 dX12_of_119 rfl rfl rfl ?_
                      refine e_iadd 121 dX12_of_120 rfl ?_
                      refine e_iald 122 dX12_of_121 ar_929 (by omega) (by omega) rfl (fun r121 => ?_)
                      refine e_iret dX12_of_122 ?_
                      first
                        | exact ⟨by omega, hI⟩
                        | (have hq := hC.pl (p := pledge) (by omega) (by omega); exact ⟨by omega, hI⟩))
                · subst b18
                  refine ⟨_, 123, rfl, by decide, ?_⟩
                  first
                   | (exfalso; omega)
                   | (skip
                      refine e_aload_n (i := 0) 124 dX12_of_123 rfl rfl rfl ?_
                      refine e_getr (j := 1) 127 fl_12_13 dX12_of_124 at_928 rfl rfl tp_928_1 rfl ?_
                      refine e_sipush 130 dX12_of_127 (by decide) rfl ?_
                      refine e_iload_n (i := 1) 131 dX12_of_130 rfl rfl rfl ?_
                      refine e_iadd 132 dX12_of_131 rfl ?_
                      refine e_iald 133 dX12_of_132 ar_929 (by omega) (by omega) rfl (fun r132 => ?_)
                      refine e_iret dX12_of_133 ?_
                      first
                        | exact ⟨by omega, hI⟩
                        | (have hq := hC.pl (p := pledge) (by omega) (by omega); exact ⟨by omega, hI⟩))
                · subst b18
                  refine ⟨_, 134, rfl, by decide, ?_⟩
                  first
                   | (exfalso; omega)
                   | (skip
                      refine e_aload_n (i := 0) 135 dX12_of_134 rfl rfl rfl ?_
                      refine e_iload_n (i := 1) 136 dX12_of_135 rfl rfl rfl ?_
                      refine e_callV 139 mt_yX12_isHeld mv_yX12_isHeld wd_1559 (by decide) dX12_of_136 at_928 jc_12 rfl rfl rfl (Nat.le_of_ble_eq_true rfl) (jroom (by decide)) rfl (m_isHeld (by omega) (fun w136 => ?_) (fun w136 => ?_))
                      · dsimp only [jpush]
                        first
                         | (exfalso; omega)
                         | (skip
                            refine e_if_eq 142 146 dX12_of_139 (by decide) (by decide) rfl (fun h => absurd h (by decide)) (fun _ => ?_)
                            refine e_iconst 143 dX12_of_142 rfl ?_
                            refine e_goto 147 dX12_of_143 (by decide) ?_
                            refine e_iret dX12_of_147 ?_
                            first
                              | exact ⟨by omega, hI⟩
                              | (have hq := hC.pl (p := pledge) (by omega) (by omega); exact ⟨by omega, hI⟩))
                      · dsimp only [jpush]
                        first
                         | (exfalso; omega)
                         | (skip
                            refine e_if_eq 142 146 dX12_of_139 (by decide) (by decide) rfl (fun _ => ?_) (fun h => absurd h (by decide))
                            refine e_iconst 147 dX12_of_146 rfl ?_
                            refine e_iret dX12_of_147 ?_
                            first
                              | exact ⟨by omega, hI⟩
                              | (have hq := hC.pl (p := pledge) (by omega) (by omega); exact ⟨by omega, hI⟩)))
                · subst b18
                  refine ⟨_, 148, rfl, by decide, ?_⟩
                  first
                   | (exfalso; omega)
                   | (skip
                      refine e_aload_n (i := 0) 149 dX12_of_148 rfl rfl rfl ?_
                      refine e_iload_n (i := 1) 150 dX12_of_149 rfl rfl rfl ?_
                      refine e_callV 153 mt_yX12_mothedLow mv_yX12_mothedLow wd_1591 (by decide) dX12_of_150 at_928 jc_12 rfl rfl rfl (Nat.le_of_ble_eq_true rfl) (jroom (by decide)) rfl (m_mothedLow (hC.1.okM (by omega) (by omega)) (hC.1.low (by omega) (by omega)) ?_)
                      dsimp only [jpush]
                      refine e_iret dX12_of_153 ?_
                      first
                        | exact ⟨by omega, hI⟩
                        | (have hq := hC.pl (p := pledge) (by omega) (by omega); exact ⟨by omega, hI⟩))
                · subst b18
                  refine ⟨_, 154, rfl, by decide, ?_⟩
                  first
                   | (exfalso; omega)
                   | (skip
                      have hpr := hC.plr (p := pledge) (by omega) (by omega)
                      refine e_aload_n (i := 0) 155 dX12_of_154 rfl rfl rfl ?_
                      refine e_iload_n (i := 1) 156 dX12_of_155 rfl rfl rfl ?_
                      refine e_aload_n (i := 0) 157 dX12_of_156 rfl rfl rfl ?_
                      refine e_getr (j := 1) 160 fl_12_13 dX12_of_157 at_928 rfl rfl tp_928_1 rfl ?_
                      refine e_sipush 163 dX12_of_160 (by decide) rfl ?_
                      refine e_aload_n (i := 0) 164 dX12_of_163 rfl rfl rfl ?_
                      refine e_getr (j := 1) 167 fl_12_13 dX12_of_164 at_928 rfl rfl tp_928_1 rfl ?_
                      refine e_sipush 170 dX12_of_167 (by decide) rfl ?_
                      refine e_iload_n (i := 1) 171 dX12_of_170 rfl rfl rfl ?_
                      refine e_iadd 172 dX12_of_171 rfl ?_
                      refine e_iald 173 dX12_of_172 ar_929 (by omega) (by omega) rfl (fun r172 => ?_)
                      refine e_iadd 174 dX12_of_173 rfl ?_
                      refine e_iald 175 dX12_of_174 ar_929 (by omega) (by omega) rfl (fun r174 => ?_)
                      refine e_callV 178 mt_yX12_mothed mv_yX12_mothed wd_1595 (by decide) dX12_of_175 at_928 jc_12 rfl rfl rfl (Nat.le_of_ble_eq_true rfl) (jroom (by decide)) rfl (m_mothed (hC.1.okM (by omega) (by omega)) (hC.1.high (by omega) (by omega)) ?_)
                      dsimp only [jpush]
                      refine e_iret dX12_of_178 ?_
                      first
                        | exact ⟨by omega, hI⟩
                        | (have hq := hC.pl (p := pledge) (by omega) (by omega); exact ⟨by omega, hI⟩))
              · skip
                refine e_sipush 182 dX12_of_179 (by decide) rfl ?_
                refine e_iret dX12_of_182 ?_
                first
                  | exact ⟨by omega, hI⟩
                  | (have hq := hC.pl (p := pledge) (by omega) (by omega); exact ⟨by omega, hI⟩))
        · dsimp only [jpush]
          first
           | (exfalso; omega)
           | (skip
              refine e_if_ne 13 17 dX12_of_10 (by decide) (by decide) rfl (fun h => absurd h (by decide)) (fun _ => ?_)
              refine e_sipush 16 dX12_of_13 (by decide) rfl ?_
              refine e_iret dX12_of_16 ?_
              first
                | exact ⟨by omega, hI⟩
                | (have hq := hC.pl (p := pledge) (by omega) (by omega); exact ⟨by omega, hI⟩))
      · subst b26
        refine ⟨_, 132, rfl, by decide, ?_⟩
        refine e_aload_n (i := 0) 133 dX11_of_132 rfl rfl rfl ?_
        refine e_getr (j := 0) 136 fl_11_10 dX11_of_133 at_0 rfl rfl tp_0_0 rfl ?_
        refine e_aload_n (i := 3) 137 dX11_of_136 rfl rfl rfl ?_
        refine e_callV 140 mt_yX8_mothedHigh mv_yX8_mothedHigh wd_876 (by decide) dX11_of_137 at_1 jc_8 rfl rfl rfl (Nat.le_of_ble_eq_true rfl) (jroom (by decide)) rfl (c_mothedHigh hC (by omega) (by omega) ?_)
        dsimp only [jpush]
        refine e_iret dX11_of_140 ?_
        refine jCt_of mt_yX12_of (Nat.le_of_ble_eq_true rfl) (fun X2 => ?_)
        refine e_aload_n (i := 0) 1 dX12_of_0 rfl rfl rfl ?_
        refine e_iconst 2 dX12_of_1 rfl ?_
        refine e_put0 (j := 0) 5 fl_12_1 dX12_of_2 at_928 rfl rfl rfl (by decide) hI.1 rfl ?_
        refine e_aload_n (i := 0) 6 dX12_of_5 rfl rfl rfl ?_
        refine e_iload_n (i := 1) 7 dX12_of_6 rfl rfl rfl ?_
        refine e_callV 10 mt_yX12_isPledge mv_yX12_isPledge wd_1579 (by decide) dX12_of_7 at_928 jc_12 rfl rfl rfl (Nat.le_of_ble_eq_true rfl) (jroom (by decide)) rfl (m_isPledge (by omega) (fun w7 => ?_) (fun w7 => ?_))
        · dsimp only [jpush]
          first
           | (exfalso; omega)
           | (skip
              refine e_if_ne 13 17 dX12_of_10 (by decide) (by decide) rfl (fun _ => ?_) (fun h => absurd h (by decide))
              refine e_iload_n (i := 2) 18 dX12_of_17 rfl rfl rfl ?_
              refine e_tsw 179 dX12_of_18 (by omega) (by decide) (fun c0 hc0 hz0 => ?_) (fun b18 => ?_)
              · have hcc : c0 = 0 ∨ c0 = 1 ∨ c0 = 2 ∨ c0 = 3 ∨ c0 = 4 ∨ c0 = 5 ∨ c0 = 6 ∨ c0 = 7 ∨ c0 = 8 := by omega
                rcases hcc with b18 | b18 | b18 | b18 | b18 | b18 | b18 | b18 | b18
                · subst b18
                  refine ⟨_, 68, rfl, by decide, ?_⟩
                  first
                   | (exfalso; omega)
                   | (skip
                      refine e_aload_n (i := 0) 69 dX12_of_68 rfl rfl rfl ?_
                      refine e_getr (j := 1) 72 fl_12_13 dX12_of_69 at_928 rfl rfl tp_928_1 rfl ?_
                      refine e_sipush 75 dX12_of_72 (by decide) rfl ?_
                      refine e_iload_n (i := 1) 76 dX12_of_75 rfl rfl rfl ?_
                      refine e_iadd 77 dX12_of_76 rfl ?_
                      refine e_iald 78 dX12_of_77 ar_929 (by omega) (by omega) rfl (fun r77 => ?_)
                      refine e_iret dX12_of_78 ?_
                      first
                        | exact ⟨by omega, hI⟩
                        | (have hq := hC.pl (p := pledge) (by omega) (by omega); exact ⟨by omega, hI⟩))
                · subst b18
                  refine ⟨_, 79, rfl, by decide, ?_⟩
                  first
                   | (exfalso; omega)
                   | (skip
                      refine e_aload_n (i := 0) 80 dX12_of_79 rfl rfl rfl ?_
                      refine e_getr (j := 1) 83 fl_12_13 dX12_of_80 at_928 rfl rfl tp_928_1 rfl ?_
                      refine e_sipush 86 dX12_of_83 (by decide) rfl ?_
                      refine e_iload_n (i := 1) 87 dX12_of_86 rfl rfl rfl ?_
                      refine e_iadd 88 dX12_of_87 rfl ?_
                      refine e_iald 89 dX12_of_88 ar_929 (by omega) (by omega) rfl (fun r88 => ?_)
                      refine e_iret dX12_of_89 ?_
                      first
                        | exact ⟨by omega, hI⟩
                        | (have hq := hC.pl (p := pledge) (by omega) (by omega); exact ⟨by omega, hI⟩))
                · subst b18
                  refine ⟨_, 90, rfl, by decide, ?_⟩
                  first
                   | (exfalso; omega)
                   | (skip
                      refine e_aload_n (i := 0) 91 dX12_of_90 rfl rfl rfl ?_
                      refine e_getr (j := 1) 94 fl_12_13 dX12_of_91 at_928 rfl rfl tp_928_1 rfl ?_
                      refine e_sipush 97 dX12_of_94 (by decide) rfl ?_
                      refine e_iload_n (i := 1) 98 dX12_of_97 rfl rfl rfl ?_
                      refine e_iadd 99 dX12_of_98 rfl ?_
                      refine e_iald 100 dX12_of_99 ar_929 (by omega) (by omega) rfl (fun r99 => ?_)
                      refine e_iret dX12_of_100 ?_
                      first
                        | exact ⟨by omega, hI⟩
                        | (have hq := hC.pl (p := pledge) (by omega) (by omega); exact ⟨by omega, hI⟩))
                · subst b18
                  refine ⟨_, 101, rfl, by decide, ?_⟩
                  first
                   | (exfalso; omega)
                   | (skip
                      refine e_aload_n (i := 0) 102 dX12_of_101 rfl rfl rfl ?_
                      refine e_getr (j := 1) 105 fl_12_13 dX12_of_102 at_928 rfl rfl tp_928_1 rfl ?_
                      refine e_sipush 108 dX12_of_105 (by decide) rfl ?_
                      refine e_iload_n (i := 1) 109 dX12_of_108 rfl rfl rfl ?_
                      refine e_iadd 110 dX12_of_109 rfl ?_
                      refine e_iald 111 dX12_of_110 ar_929 (by omega) (by omega) rfl (fun r110 => ?_)
                      refine e_iret dX12_of_111 ?_
                      first
                        | exact ⟨by omega, hI⟩
                        | (have hq := hC.pl (p := pledge) (by omega) (by omega); exact ⟨by omega, hI⟩))
                · subst b18
                  refine ⟨_, 112, rfl, by decide, ?_⟩
                  first
                   | (exfalso; omega)
                   | (skip
                      refine e_aload_n (i := 0) 113 dX12_of_112 rfl rfl rfl ?_
                      refine e_getr (j := 1) 116 fl_12_13 dX12_of_113 at_928 rfl rfl tp_928_1 rfl ?_
                      refine e_sipush 119 dX12_of_116 (by decide) rfl ?_
                      refine e_iload_n (i := 1) 120 dX12_of_119 rfl rfl rfl ?_
                      refine e_iadd 121 dX12_of_120 rfl ?_
                      refine e_iald 122 dX12_of_121 ar_929 (by omega) (by omega) rfl (fun r121 => ?_)
                      refine e_iret dX12_of_122 ?_
                      first
                        | exact ⟨by omega, hI⟩
                        | (have hq := hC.pl (p := pledge) (by omega) (by omega); exact ⟨by omega, hI⟩))
                · subst b18
                  refine ⟨_, 123, rfl, by decide, ?_⟩
                  first
                   | (exfalso; omega)
                   | (skip
                      refine e_aload_n (i := 0) 124 dX12_of_123 rfl rfl rfl ?_
                      refine e_getr (j := 1) 127 fl_12_13 dX12_of_124 at_928 rfl rfl tp_928_1 rfl ?_
                      refine e_sipush 130 dX12_of_127 (by decide) rfl ?_
                      refine e_iload_n (i := 1) 131 dX12_of_130 rfl rfl rfl ?_
                      refine e_iadd 132 dX12_of_131 rfl ?_
                      refine e_iald 133 dX12_of_132 ar_929 (by omega) (by omega) rfl (fun r132 => ?_)
                      refine e_iret dX12_of_133 ?_
                      first
                        | exact ⟨by omega, hI⟩
                        | (have hq := hC.pl (p := pledge) (by omega) (by omega); exact ⟨by omega, hI⟩))
                · subst b18
                  refine ⟨_, 134, rfl, by decide, ?_⟩
                  first
                   | (exfalso; omega)
                   | (skip
                      refine e_aload_n (i := 0) 135 dX12_of_134 rfl rfl rfl ?_
                      refine e_iload_n (i := 1) 136 dX12_of_135 rfl rfl rfl ?_
                      refine e_callV 139 mt_yX12_isHeld mv_yX12_isHeld wd_1559 (by decide) dX12_of_136 at_928 jc_12 rfl rfl rfl (Nat.le_of_ble_eq_true rfl) (jroom (by decide)) rfl (m_isHeld (by omega) (fun w136 => ?_) (fun w136 => ?_))
                      · dsimp only [jpush]
                        first
                         | (exfalso; omega)
                         | (skip
                            refine e_if_eq 142 146 dX12_of_139 (by decide) (by decide) rfl (fun h => absurd h (by decide)) (fun _ => ?_)
                            refine e_iconst 143 dX12_of_142 rfl ?_
                            refine e_goto 147 dX12_of_143 (by decide) ?_
                            refine e_iret dX12_of_147 ?_
                            first
                              | exact ⟨by omega, hI⟩
                              | (have hq := hC.pl (p := pledge) (by omega) (by omega); exact ⟨by omega, hI⟩))
                      · dsimp only [jpush]
                        first
                         | (exfalso; omega)
                         | (skip
                            refine e_if_eq 142 146 dX12_of_139 (by decide) (by decide) rfl (fun _ => ?_) (fun h => absurd h (by decide))
                            refine e_iconst 147 dX12_of_146 rfl ?_
                            refine e_iret dX12_of_147 ?_
                            first
                              | exact ⟨by omega, hI⟩
                              | (have hq := hC.pl (p := pledge) (by omega) (by omega); exact ⟨by omega, hI⟩)))
                · subst b18
                  refine ⟨_, 148, rfl, by decide, ?_⟩
                  first
                   | (exfalso; omega)
                   | (skip
                      refine e_aload_n (i := 0) 149 dX12_of_148 rfl rfl rfl ?_
                      refine e_iload_n (i := 1) 150 dX12_of_149 rfl rfl rfl ?_
                      refine e_callV 153 mt_yX12_mothedLow mv_yX12_mothedLow wd_1591 (by decide) dX12_of_150 at_928 jc_12 rfl rfl rfl (Nat.le_of_ble_eq_true rfl) (jroom (by decide)) rfl (m_mothedLow (hC.1.okM (by omega) (by omega)) (hC.1.low (by omega) (by omega)) ?_)
                      dsimp only [jpush]
                      refine e_iret dX12_of_153 ?_
                      first
                        | exact ⟨by omega, hI⟩
                        | (have hq := hC.pl (p := pledge) (by omega) (by omega); exact ⟨by omega, hI⟩))
                · subst b18
                  refine ⟨_, 154, rfl, by decide, ?_⟩
                  first
                   | (exfalso; omega)
                   | (skip
                      have hpr := hC.plr (p := pledge) (by omega) (by omega)
                      refine e_aload_n (i := 0) 155 dX12_of_154 rfl rfl rfl ?_
                      refine e_iload_n (i := 1) 156 dX12_of_155 rfl rfl rfl ?_
                      refine e_aload_n (i := 0) 157 dX12_of_156 rfl rfl rfl ?_
                      refine e_getr (j := 1) 160 fl_12_13 dX12_of_157 at_928 rfl rfl tp_928_1 rfl ?_
                      refine e_sipush 163 dX12_of_160 (by decide) rfl ?_
                      refine e_aload_n (i := 0) 164 dX12_of_163 rfl rfl rfl ?_
                      refine e_getr (j := 1) 167 fl_12_13 dX12_of_164 at_928 rfl rfl tp_928_1 rfl ?_
                      refine e_sipush 170 dX12_of_167 (by decide) rfl ?_
                      refine e_iload_n (i := 1) 171 dX12_of_170 rfl rfl rfl ?_
                      refine e_iadd 172 dX12_of_171 rfl ?_
                      refine e_iald 173 dX12_of_172 ar_929 (by omega) (by omega) rfl (fun r172 => ?_)
                      refine e_iadd 174 dX12_of_173 rfl ?_
                      refine e_iald 175 dX12_of_174 ar_929 (by omega) (by omega) rfl (fun r174 => ?_)
                      refine e_callV 178 mt_yX12_mothed mv_yX12_mothed wd_1595 (by decide) dX12_of_175 at_928 jc_12 rfl rfl rfl (Nat.le_of_ble_eq_true rfl) (jroom (by decide)) rfl (m_mothed (hC.1.okM (by omega) (by omega)) (hC.1.high (by omega) (by omega)) ?_)
                      dsimp only [jpush]
                      refine e_iret dX12_of_178 ?_
                      first
                        | exact ⟨by omega, hI⟩
                        | (have hq := hC.pl (p := pledge) (by omega) (by omega); exact ⟨by omega, hI⟩))
              · skip
                refine e_sipush 182 dX12_of_179 (by decide) rfl ?_
                refine e_iret dX12_of_182 ?_
                first
                  | exact ⟨by omega, hI⟩
                  | (have hq := hC.pl (p := pledge) (by omega) (by omega); exact ⟨by omega, hI⟩))
        · dsimp only [jpush]
          first
           | (exfalso; omega)
           | (skip
              refine e_if_ne 13 17 dX12_of_10 (by decide) (by decide) rfl (fun h => absurd h (by decide)) (fun _ => ?_)
              refine e_sipush 16 dX12_of_13 (by decide) rfl ?_
              refine e_iret dX12_of_16 ?_
              first
                | exact ⟨by omega, hI⟩
                | (have hq := hC.pl (p := pledge) (by omega) (by omega); exact ⟨by omega, hI⟩))
    · skip
      refine e_sipush 144 dX11_of_141 (by decide) rfl ?_
      refine e_iret dX11_of_144 ?_
      refine jCt_of mt_yX12_of (Nat.le_of_ble_eq_true rfl) (fun X2 => ?_)
      refine e_aload_n (i := 0) 1 dX12_of_0 rfl rfl rfl ?_
      refine e_iconst 2 dX12_of_1 rfl ?_
      refine e_put0 (j := 0) 5 fl_12_1 dX12_of_2 at_928 rfl rfl rfl (by decide) hI.1 rfl ?_
      refine e_aload_n (i := 0) 6 dX12_of_5 rfl rfl rfl ?_
      refine e_iload_n (i := 1) 7 dX12_of_6 rfl rfl rfl ?_
      refine e_callV 10 mt_yX12_isPledge mv_yX12_isPledge wd_1579 (by decide) dX12_of_7 at_928 jc_12 rfl rfl rfl (Nat.le_of_ble_eq_true rfl) (jroom (by decide)) rfl (m_isPledge (by omega) (fun w7 => ?_) (fun w7 => ?_))
      · dsimp only [jpush]
        first
         | (exfalso; omega)
         | (skip
            refine e_if_ne 13 17 dX12_of_10 (by decide) (by decide) rfl (fun _ => ?_) (fun h => absurd h (by decide))
            refine e_iload_n (i := 2) 18 dX12_of_17 rfl rfl rfl ?_
            refine e_tsw 179 dX12_of_18 (by omega) (by decide) (fun c0 hc0 hz0 => ?_) (fun b18 => ?_)
            · have hcc : c0 = 0 ∨ c0 = 1 ∨ c0 = 2 ∨ c0 = 3 ∨ c0 = 4 ∨ c0 = 5 ∨ c0 = 6 ∨ c0 = 7 ∨ c0 = 8 := by omega
              rcases hcc with b18 | b18 | b18 | b18 | b18 | b18 | b18 | b18 | b18
              · subst b18
                refine ⟨_, 68, rfl, by decide, ?_⟩
                first
                 | (exfalso; omega)
                 | (skip
                    refine e_aload_n (i := 0) 69 dX12_of_68 rfl rfl rfl ?_
                    refine e_getr (j := 1) 72 fl_12_13 dX12_of_69 at_928 rfl rfl tp_928_1 rfl ?_
                    refine e_sipush 75 dX12_of_72 (by decide) rfl ?_
                    refine e_iload_n (i := 1) 76 dX12_of_75 rfl rfl rfl ?_
                    refine e_iadd 77 dX12_of_76 rfl ?_
                    refine e_iald 78 dX12_of_77 ar_929 (by omega) (by omega) rfl (fun r77 => ?_)
                    refine e_iret dX12_of_78 ?_
                    first
                      | exact ⟨by omega, hI⟩
                      | (have hq := hC.pl (p := pledge) (by omega) (by omega); exact ⟨by omega, hI⟩))
              · subst b18
                refine ⟨_, 79, rfl, by decide, ?_⟩
                first
                 | (exfalso; omega)
                 | (skip
                    refine e_aload_n (i := 0) 80 dX12_of_79 rfl rfl rfl ?_
                    refine e_getr (j := 1) 83 fl_12_13 dX12_of_80 at_928 rfl rfl tp_928_1 rfl ?_
                    refine e_sipush 86 dX12_of_83 (by decide) rfl ?_
                    refine e_iload_n (i := 1) 87 dX12_of_86 rfl rfl rfl ?_
                    refine e_iadd 88 dX12_of_87 rfl ?_
                    refine e_iald 89 dX12_of_88 ar_929 (by omega) (by omega) rfl (fun r88 => ?_)
                    refine e_iret dX12_of_89 ?_
                    first
                      | exact ⟨by omega, hI⟩
                      | (have hq := hC.pl (p := pledge) (by omega) (by omega); exact ⟨by omega, hI⟩))
              · subst b18
                refine ⟨_, 90, rfl, by decide, ?_⟩
                first
                 | (exfalso; omega)
                 | (skip
                    refine e_aload_n (i := 0) 91 dX12_of_90 rfl rfl rfl ?_
                    refine e_getr (j := 1) 94 fl_12_13 dX12_of_91 at_928 rfl rfl tp_928_1 rfl ?_
                    refine e_sipush 97 dX12_of_94 (by decide) rfl ?_
                    refine e_iload_n (i := 1) 98 dX12_of_97 rfl rfl rfl ?_
                    refine e_iadd 99 dX12_of_98 rfl ?_
                    refine e_iald 100 dX12_of_99 ar_929 (by omega) (by omega) rfl (fun r99 => ?_)
                    refine e_iret dX12_of_100 ?_
                    first
                      | exact ⟨by omega, hI⟩
                      | (have hq := hC.pl (p := pledge) (by omega) (by omega); exact ⟨by omega, hI⟩))
              · subst b18
                refine ⟨_, 101, rfl, by decide, ?_⟩
                first
                 | (exfalso; omega)
                 | (skip
                    refine e_aload_n (i := 0) 102 dX12_of_101 rfl rfl rfl ?_
                    refine e_getr (j := 1) 105 fl_12_13 dX12_of_102 at_928 rfl rfl tp_928_1 rfl ?_
                    refine e_sipush 108 dX12_of_105 (by decide) rfl ?_
                    refine e_iload_n (i := 1) 109 dX12_of_108 rfl rfl rfl ?_
                    refine e_iadd 110 dX12_of_109 rfl ?_
                    refine e_iald 111 dX12_of_110 ar_929 (by omega) (by omega) rfl (fun r110 => ?_)
                    refine e_iret dX12_of_111 ?_
                    first
                      | exact ⟨by omega, hI⟩
                      | (have hq := hC.pl (p := pledge) (by omega) (by omega); exact ⟨by omega, hI⟩))
              · subst b18
                refine ⟨_, 112, rfl, by decide, ?_⟩
                first
                 | (exfalso; omega)
                 | (skip
                    refine e_aload_n (i := 0) 113 dX12_of_112 rfl rfl rfl ?_
                    refine e_getr (j := 1) 116 fl_12_13 dX12_of_113 at_928 rfl rfl tp_928_1 rfl ?_
                    refine e_sipush 119 dX12_of_116 (by decide) rfl ?_
                    refine e_iload_n (i := 1) 120 dX12_of_119 rfl rfl rfl ?_
                    refine e_iadd 121 dX12_of_120 rfl ?_
                    refine e_iald 122 dX12_of_121 ar_929 (by omega) (by omega) rfl (fun r121 => ?_)
                    refine e_iret dX12_of_122 ?_
                    first
                      | exact ⟨by omega, hI⟩
                      | (have hq := hC.pl (p := pledge) (by omega) (by omega); exact ⟨by omega, hI⟩))
              · subst b18
                refine ⟨_, 123, rfl, by decide, ?_⟩
                first
                 | (exfalso; omega)
                 | (skip
                    refine e_aload_n (i := 0) 124 dX12_of_123 rfl rfl rfl ?_
                    refine e_getr (j := 1) 127 fl_12_13 dX12_of_124 at_928 rfl rfl tp_928_1 rfl ?_
                    refine e_sipush 130 dX12_of_127 (by decide) rfl ?_
                    refine e_iload_n (i := 1) 131 dX12_of_130 rfl rfl rfl ?_
                    refine e_iadd 132 dX12_of_131 rfl ?_
                    refine e_iald 133 dX12_of_132 ar_929 (by omega) (by omega) rfl (fun r132 => ?_)
                    refine e_iret dX12_of_133 ?_
                    first
                      | exact ⟨by omega, hI⟩
                      | (have hq := hC.pl (p := pledge) (by omega) (by omega); exact ⟨by omega, hI⟩))
              · subst b18
                refine ⟨_, 134, rfl, by decide, ?_⟩
                first
                 | (exfalso; omega)
                 | (skip
                    refine e_aload_n (i := 0) 135 dX12_of_134 rfl rfl rfl ?_
                    refine e_iload_n (i := 1) 136 dX12_of_135 rfl rfl rfl ?_
                    refine e_callV 139 mt_yX12_isHeld mv_yX12_isHeld wd_1559 (by decide) dX12_of_136 at_928 jc_12 rfl rfl rfl (Nat.le_of_ble_eq_true rfl) (jroom (by decide)) rfl (m_isHeld (by omega) (fun w136 => ?_) (fun w136 => ?_))
                    · dsimp only [jpush]
                      first
                       | (exfalso; omega)
                       | (skip
                          refine e_if_eq 142 146 dX12_of_139 (by decide) (by decide) rfl (fun h => absurd h (by decide)) (fun _ => ?_)
                          refine e_iconst 143 dX12_of_142 rfl ?_
                          refine e_goto 147 dX12_of_143 (by decide) ?_
                          refine e_iret dX12_of_147 ?_
                          first
                            | exact ⟨by omega, hI⟩
                            | (have hq := hC.pl (p := pledge) (by omega) (by omega); exact ⟨by omega, hI⟩))
                    · dsimp only [jpush]
                      first
                       | (exfalso; omega)
                       | (skip
                          refine e_if_eq 142 146 dX12_of_139 (by decide) (by decide) rfl (fun _ => ?_) (fun h => absurd h (by decide))
                          refine e_iconst 147 dX12_of_146 rfl ?_
                          refine e_iret dX12_of_147 ?_
                          first
                            | exact ⟨by omega, hI⟩
                            | (have hq := hC.pl (p := pledge) (by omega) (by omega); exact ⟨by omega, hI⟩)))
              · subst b18
                refine ⟨_, 148, rfl, by decide, ?_⟩
                first
                 | (exfalso; omega)
                 | (skip
                    refine e_aload_n (i := 0) 149 dX12_of_148 rfl rfl rfl ?_
                    refine e_iload_n (i := 1) 150 dX12_of_149 rfl rfl rfl ?_
                    refine e_callV 153 mt_yX12_mothedLow mv_yX12_mothedLow wd_1591 (by decide) dX12_of_150 at_928 jc_12 rfl rfl rfl (Nat.le_of_ble_eq_true rfl) (jroom (by decide)) rfl (m_mothedLow (hC.1.okM (by omega) (by omega)) (hC.1.low (by omega) (by omega)) ?_)
                    dsimp only [jpush]
                    refine e_iret dX12_of_153 ?_
                    first
                      | exact ⟨by omega, hI⟩
                      | (have hq := hC.pl (p := pledge) (by omega) (by omega); exact ⟨by omega, hI⟩))
              · subst b18
                refine ⟨_, 154, rfl, by decide, ?_⟩
                first
                 | (exfalso; omega)
                 | (skip
                    have hpr := hC.plr (p := pledge) (by omega) (by omega)
                    refine e_aload_n (i := 0) 155 dX12_of_154 rfl rfl rfl ?_
                    refine e_iload_n (i := 1) 156 dX12_of_155 rfl rfl rfl ?_
                    refine e_aload_n (i := 0) 157 dX12_of_156 rfl rfl rfl ?_
                    refine e_getr (j := 1) 160 fl_12_13 dX12_of_157 at_928 rfl rfl tp_928_1 rfl ?_
                    refine e_sipush 163 dX12_of_160 (by decide) rfl ?_
                    refine e_aload_n (i := 0) 164 dX12_of_163 rfl rfl rfl ?_
                    refine e_getr (j := 1) 167 fl_12_13 dX12_of_164 at_928 rfl rfl tp_928_1 rfl ?_
                    refine e_sipush 170 dX12_of_167 (by decide) rfl ?_
                    refine e_iload_n (i := 1) 171 dX12_of_170 rfl rfl rfl ?_
                    refine e_iadd 172 dX12_of_171 rfl ?_
                    refine e_iald 173 dX12_of_172 ar_929 (by omega) (by omega) rfl (fun r172 => ?_)
                    refine e_iadd 174 dX12_of_173 rfl ?_
                    refine e_iald 175 dX12_of_174 ar_929 (by omega) (by omega) rfl (fun r174 => ?_)
                    refine e_callV 178 mt_yX12_mothed mv_yX12_mothed wd_1595 (by decide) dX12_of_175 at_928 jc_12 rfl rfl rfl (Nat.le_of_ble_eq_true rfl) (jroom (by decide)) rfl (m_mothed (hC.1.okM (by omega) (by omega)) (hC.1.high (by omega) (by omega)) ?_)
                    dsimp only [jpush]
                    refine e_iret dX12_of_178 ?_
                    first
                      | exact ⟨by omega, hI⟩
                      | (have hq := hC.pl (p := pledge) (by omega) (by omega); exact ⟨by omega, hI⟩))
            · skip
              refine e_sipush 182 dX12_of_179 (by decide) rfl ?_
              refine e_iret dX12_of_182 ?_
              first
                | exact ⟨by omega, hI⟩
                | (have hq := hC.pl (p := pledge) (by omega) (by omega); exact ⟨by omega, hI⟩))
      · dsimp only [jpush]
        first
         | (exfalso; omega)
         | (skip
            refine e_if_ne 13 17 dX12_of_10 (by decide) (by decide) rfl (fun h => absurd h (by decide)) (fun _ => ?_)
            refine e_sipush 16 dX12_of_13 (by decide) rfl ?_
            refine e_iret dX12_of_16 ?_
            first
              | exact ⟨by omega, hI⟩
              | (have hq := hC.pl (p := pledge) (by omega) (by omega); exact ⟨by omega, hI⟩))
  · dsimp only [jpush]
    refine e_if_ne 11 15 dX11_of_8 (by decide) (by decide) rfl (fun h => absurd h (by decide)) (fun _ => ?_)
    refine e_sipush 14 dX11_of_11 (by decide) rfl ?_
    refine e_iret dX11_of_14 ?_
    refine jCt_of mt_yX12_of (Nat.le_of_ble_eq_true rfl) (fun X2 => ?_)
    refine e_aload_n (i := 0) 1 dX12_of_0 rfl rfl rfl ?_
    refine e_iconst 2 dX12_of_1 rfl ?_
    refine e_put0 (j := 0) 5 fl_12_1 dX12_of_2 at_928 rfl rfl rfl (by decide) hI.1 rfl ?_
    refine e_aload_n (i := 0) 6 dX12_of_5 rfl rfl rfl ?_
    refine e_iload_n (i := 1) 7 dX12_of_6 rfl rfl rfl ?_
    refine e_callV 10 mt_yX12_isPledge mv_yX12_isPledge wd_1579 (by decide) dX12_of_7 at_928 jc_12 rfl rfl rfl (Nat.le_of_ble_eq_true rfl) (jroom (by decide)) rfl (m_isPledge (by omega) (fun w7 => ?_) (fun w7 => ?_))
    · dsimp only [jpush]
      first
       | (exfalso; omega)
       | (skip
          refine e_if_ne 13 17 dX12_of_10 (by decide) (by decide) rfl (fun _ => ?_) (fun h => absurd h (by decide))
          refine e_iload_n (i := 2) 18 dX12_of_17 rfl rfl rfl ?_
          refine e_tsw 179 dX12_of_18 (by omega) (by decide) (fun c0 hc0 hz0 => ?_) (fun b18 => ?_)
          · have hcc : c0 = 0 ∨ c0 = 1 ∨ c0 = 2 ∨ c0 = 3 ∨ c0 = 4 ∨ c0 = 5 ∨ c0 = 6 ∨ c0 = 7 ∨ c0 = 8 := by omega
            rcases hcc with b18 | b18 | b18 | b18 | b18 | b18 | b18 | b18 | b18
            · subst b18
              refine ⟨_, 68, rfl, by decide, ?_⟩
              first
               | (exfalso; omega)
               | (skip
                  refine e_aload_n (i := 0) 69 dX12_of_68 rfl rfl rfl ?_
                  refine e_getr (j := 1) 72 fl_12_13 dX12_of_69 at_928 rfl rfl tp_928_1 rfl ?_
                  refine e_sipush 75 dX12_of_72 (by decide) rfl ?_
                  refine e_iload_n (i := 1) 76 dX12_of_75 rfl rfl rfl ?_
                  refine e_iadd 77 dX12_of_76 rfl ?_
                  refine e_iald 78 dX12_of_77 ar_929 (by omega) (by omega) rfl (fun r77 => ?_)
                  refine e_iret dX12_of_78 ?_
                  first
                    | exact ⟨by omega, hI⟩
                    | (have hq := hC.pl (p := pledge) (by omega) (by omega); exact ⟨by omega, hI⟩))
            · subst b18
              refine ⟨_, 79, rfl, by decide, ?_⟩
              first
               | (exfalso; omega)
               | (skip
                  refine e_aload_n (i := 0) 80 dX12_of_79 rfl rfl rfl ?_
                  refine e_getr (j := 1) 83 fl_12_13 dX12_of_80 at_928 rfl rfl tp_928_1 rfl ?_
                  refine e_sipush 86 dX12_of_83 (by decide) rfl ?_
                  refine e_iload_n (i := 1) 87 dX12_of_86 rfl rfl rfl ?_
                  refine e_iadd 88 dX12_of_87 rfl ?_
                  refine e_iald 89 dX12_of_88 ar_929 (by omega) (by omega) rfl (fun r88 => ?_)
                  refine e_iret dX12_of_89 ?_
                  first
                    | exact ⟨by omega, hI⟩
                    | (have hq := hC.pl (p := pledge) (by omega) (by omega); exact ⟨by omega, hI⟩))
            · subst b18
              refine ⟨_, 90, rfl, by decide, ?_⟩
              first
               | (exfalso; omega)
               | (skip
                  refine e_aload_n (i := 0) 91 dX12_of_90 rfl rfl rfl ?_
                  refine e_getr (j := 1) 94 fl_12_13 dX12_of_91 at_928 rfl rfl tp_928_1 rfl ?_
                  refine e_sipush 97 dX12_of_94 (by decide) rfl ?_
                  refine e_iload_n (i := 1) 98 dX12_of_97 rfl rfl rfl ?_
                  refine e_iadd 99 dX12_of_98 rfl ?_
                  refine e_iald 100 dX12_of_99 ar_929 (by omega) (by omega) rfl (fun r99 => ?_)
                  refine e_iret dX12_of_100 ?_
                  first
                    | exact ⟨by omega, hI⟩
                    | (have hq := hC.pl (p := pledge) (by omega) (by omega); exact ⟨by omega, hI⟩))
            · subst b18
              refine ⟨_, 101, rfl, by decide, ?_⟩
              first
               | (exfalso; omega)
               | (skip
                  refine e_aload_n (i := 0) 102 dX12_of_101 rfl rfl rfl ?_
                  refine e_getr (j := 1) 105 fl_12_13 dX12_of_102 at_928 rfl rfl tp_928_1 rfl ?_
                  refine e_sipush 108 dX12_of_105 (by decide) rfl ?_
                  refine e_iload_n (i := 1) 109 dX12_of_108 rfl rfl rfl ?_
                  refine e_iadd 110 dX12_of_109 rfl ?_
                  refine e_iald 111 dX12_of_110 ar_929 (by omega) (by omega) rfl (fun r110 => ?_)
                  refine e_iret dX12_of_111 ?_
                  first
                    | exact ⟨by omega, hI⟩
                    | (have hq := hC.pl (p := pledge) (by omega) (by omega); exact ⟨by omega, hI⟩))
            · subst b18
              refine ⟨_, 112, rfl, by decide, ?_⟩
              first
               | (exfalso; omega)
               | (skip
                  refine e_aload_n (i := 0) 113 dX12_of_112 rfl rfl rfl ?_
                  refine e_getr (j := 1) 116 fl_12_13 dX12_of_113 at_928 rfl rfl tp_928_1 rfl ?_
                  refine e_sipush 119 dX12_of_116 (by decide) rfl ?_
                  refine e_iload_n (i := 1) 120 dX12_of_119 rfl rfl rfl ?_
                  refine e_iadd 121 dX12_of_120 rfl ?_
                  refine e_iald 122 dX12_of_121 ar_929 (by omega) (by omega) rfl (fun r121 => ?_)
                  refine e_iret dX12_of_122 ?_
                  first
                    | exact ⟨by omega, hI⟩
                    | (have hq := hC.pl (p := pledge) (by omega) (by omega); exact ⟨by omega, hI⟩))
            · subst b18
              refine ⟨_, 123, rfl, by decide, ?_⟩
              first
               | (exfalso; omega)
               | (skip
                  refine e_aload_n (i := 0) 124 dX12_of_123 rfl rfl rfl ?_
                  refine e_getr (j := 1) 127 fl_12_13 dX12_of_124 at_928 rfl rfl tp_928_1 rfl ?_
                  refine e_sipush 130 dX12_of_127 (by decide) rfl ?_
                  refine e_iload_n (i := 1) 131 dX12_of_130 rfl rfl rfl ?_
                  refine e_iadd 132 dX12_of_131 rfl ?_
                  refine e_iald 133 dX12_of_132 ar_929 (by omega) (by omega) rfl (fun r132 => ?_)
                  refine e_iret dX12_of_133 ?_
                  first
                    | exact ⟨by omega, hI⟩
                    | (have hq := hC.pl (p := pledge) (by omega) (by omega); exact ⟨by omega, hI⟩))
            · subst b18
              refine ⟨_, 134, rfl, by decide, ?_⟩
              first
               | (exfalso; omega)
               | (skip
                  refine e_aload_n (i := 0) 135 dX12_of_134 rfl rfl rfl ?_
                  refine e_iload_n (i := 1) 136 dX12_of_135 rfl rfl rfl ?_
                  refine e_callV 139 mt_yX12_isHeld mv_yX12_isHeld wd_1559 (by decide) dX12_of_136 at_928 jc_12 rfl rfl rfl (Nat.le_of_ble_eq_true rfl) (jroom (by decide)) rfl (m_isHeld (by omega) (fun w136 => ?_) (fun w136 => ?_))
                  · dsimp only [jpush]
                    first
                     | (exfalso; omega)
                     | (skip
                        refine e_if_eq 142 146 dX12_of_139 (by decide) (by decide) rfl (fun h => absurd h (by decide)) (fun _ => ?_)
                        refine e_iconst 143 dX12_of_142 rfl ?_
                        refine e_goto 147 dX12_of_143 (by decide) ?_
                        refine e_iret dX12_of_147 ?_
                        first
                          | exact ⟨by omega, hI⟩
                          | (have hq := hC.pl (p := pledge) (by omega) (by omega); exact ⟨by omega, hI⟩))
                  · dsimp only [jpush]
                    first
                     | (exfalso; omega)
                     | (skip
                        refine e_if_eq 142 146 dX12_of_139 (by decide) (by decide) rfl (fun _ => ?_) (fun h => absurd h (by decide))
                        refine e_iconst 147 dX12_of_146 rfl ?_
                        refine e_iret dX12_of_147 ?_
                        first
                          | exact ⟨by omega, hI⟩
                          | (have hq := hC.pl (p := pledge) (by omega) (by omega); exact ⟨by omega, hI⟩)))
            · subst b18
              refine ⟨_, 148, rfl, by decide, ?_⟩
              first
               | (exfalso; omega)
               | (skip
                  refine e_aload_n (i := 0) 149 dX12_of_148 rfl rfl rfl ?_
                  refine e_iload_n (i := 1) 150 dX12_of_149 rfl rfl rfl ?_
                  refine e_callV 153 mt_yX12_mothedLow mv_yX12_mothedLow wd_1591 (by decide) dX12_of_150 at_928 jc_12 rfl rfl rfl (Nat.le_of_ble_eq_true rfl) (jroom (by decide)) rfl (m_mothedLow (hC.1.okM (by omega) (by omega)) (hC.1.low (by omega) (by omega)) ?_)
                  dsimp only [jpush]
                  refine e_iret dX12_of_153 ?_
                  first
                    | exact ⟨by omega, hI⟩
                    | (have hq := hC.pl (p := pledge) (by omega) (by omega); exact ⟨by omega, hI⟩))
            · subst b18
              refine ⟨_, 154, rfl, by decide, ?_⟩
              first
               | (exfalso; omega)
               | (skip
                  have hpr := hC.plr (p := pledge) (by omega) (by omega)
                  refine e_aload_n (i := 0) 155 dX12_of_154 rfl rfl rfl ?_
                  refine e_iload_n (i := 1) 156 dX12_of_155 rfl rfl rfl ?_
                  refine e_aload_n (i := 0) 157 dX12_of_156 rfl rfl rfl ?_
                  refine e_getr (j := 1) 160 fl_12_13 dX12_of_157 at_928 rfl rfl tp_928_1 rfl ?_
                  refine e_sipush 163 dX12_of_160 (by decide) rfl ?_
                  refine e_aload_n (i := 0) 164 dX12_of_163 rfl rfl rfl ?_
                  refine e_getr (j := 1) 167 fl_12_13 dX12_of_164 at_928 rfl rfl tp_928_1 rfl ?_
                  refine e_sipush 170 dX12_of_167 (by decide) rfl ?_
                  refine e_iload_n (i := 1) 171 dX12_of_170 rfl rfl rfl ?_
                  refine e_iadd 172 dX12_of_171 rfl ?_
                  refine e_iald 173 dX12_of_172 ar_929 (by omega) (by omega) rfl (fun r172 => ?_)
                  refine e_iadd 174 dX12_of_173 rfl ?_
                  refine e_iald 175 dX12_of_174 ar_929 (by omega) (by omega) rfl (fun r174 => ?_)
                  refine e_callV 178 mt_yX12_mothed mv_yX12_mothed wd_1595 (by decide) dX12_of_175 at_928 jc_12 rfl rfl rfl (Nat.le_of_ble_eq_true rfl) (jroom (by decide)) rfl (m_mothed (hC.1.okM (by omega) (by omega)) (hC.1.high (by omega) (by omega)) ?_)
                  dsimp only [jpush]
                  refine e_iret dX12_of_178 ?_
                  first
                    | exact ⟨by omega, hI⟩
                    | (have hq := hC.pl (p := pledge) (by omega) (by omega); exact ⟨by omega, hI⟩))
          · skip
            refine e_sipush 182 dX12_of_179 (by decide) rfl ?_
            refine e_iret dX12_of_182 ?_
            first
              | exact ⟨by omega, hI⟩
              | (have hq := hC.pl (p := pledge) (by omega) (by omega); exact ⟨by omega, hI⟩))
    · dsimp only [jpush]
      first
       | (exfalso; omega)
       | (skip
          refine e_if_ne 13 17 dX12_of_10 (by decide) (by decide) rfl (fun h => absurd h (by decide)) (fun _ => ?_)
          refine e_sipush 16 dX12_of_13 (by decide) rfl ?_
          refine e_iret dX12_of_16 ?_
          first
            | exact ⟨by omega, hI⟩
            | (have hq := hC.pl (p := pledge) (by omega) (by omega); exact ⟨by omega, hI⟩))

theorem p_interest {M : jM} (hI : Inv M) {shop : Int} (hshop : -2147483648 ≤ shop ∧ shop ≤ 2147483647) {loan : Int} (hloan : -2147483648 ≤ loan ∧ loan ≤ 2147483647) {fr : Int} (hfr : -2147483648 ≤ fr ∧ fr ≤ 2147483647) {to : Int} (hto : -2147483648 ≤ to ∧ to ≤ 2147483647) : jCt yX11_interest cX11_interest 6 (some .int) 3 [jR 0, jI shop, jI loan, jI fr, jI to] M (fun z M1 => jCt yX12_interest cX12_interest 6 (some .int) 2 [jR 928, jI shop, jI loan, jI fr, jI to] M1 (fun z2 M2 => z = z2 ∧ Inv M2)) := by
  have hC := hI.cr
  have hn := hC.cnt
  have hg := hC.rng
  have q1 := hC.lrel.top
  have q2 := hC.lrelo.top
  have q3 := fTop_0 (M := M)
  refine jCt_of mt_yX11_interest (Nat.le_of_ble_eq_true rfl) (fun X => ?_)
  refine e_iload_n (i := 1) 1 dX11_interest_0 rfl rfl rfl ?_
  refine e_if_eq 4 12 dX11_interest_1 (by omega) (by decide) rfl (fun b1 => ?_) (fun b1 => ?_)
  · skip
    refine e_iload_n (i := 2) 13 dX11_interest_12 rfl rfl rfl ?_
    refine e_callS 16 mt_yX11_isLoan ms_yX11_isLoan wd_727 (by decide) dX11_interest_13 rfl rfl (Nat.le_of_ble_eq_true rfl) (jroom (by decide)) rfl (c_isLoan (by omega) (fun w13 => ?_) (fun w13 => ?_))
    · dsimp only [jpush]
      refine e_if_eq 19 42 dX11_interest_16 (by decide) (by decide) rfl (fun h => absurd h (by decide)) (fun _ => ?_)
      refine e_iload_n (i := 3) 20 dX11_interest_19 rfl rfl rfl ?_
      refine e_iconst 21 dX11_interest_20 rfl ?_
      refine e_sipush 24 dX11_interest_21 (by decide) rfl ?_
      refine e_callS 27 mt_yX11_within ms_yX11_within wd_531 (by decide) dX11_interest_24 rfl rfl (Nat.le_of_ble_eq_true rfl) (jroom (by decide)) rfl (c_within (by omega) (by omega) (by omega) (fun w24 => ?_) (fun w24 => ?_))
      · dsimp only [jpush]
        refine e_if_eq 30 42 dX11_interest_27 (by decide) (by decide) rfl (fun h => absurd h (by decide)) (fun _ => ?_)
        refine e_iload 32 dX11_interest_30 rfl rfl ?_
        refine e_iload_n (i := 3) 33 dX11_interest_32 rfl rfl rfl ?_
        refine e_sipush 36 dX11_interest_33 (by decide) rfl ?_
        refine e_callS 39 mt_yX11_within ms_yX11_within wd_531 (by decide) dX11_interest_36 rfl rfl (Nat.le_of_ble_eq_true rfl) (jroom (by decide)) rfl (c_within (by omega) (by omega) (by omega) (fun w36 => ?_) (fun w36 => ?_))
        · dsimp only [jpush]
          refine e_if_ne 42 45 dX11_interest_39 (by decide) (by decide) rfl (fun _ => ?_) (fun h => absurd h (by decide))
          refine e_iload_n (i := 1) 46 dX11_interest_45 rfl rfl rfl ?_
          refine e_if_ne 49 59 dX11_interest_46 (by omega) (by decide) rfl (fun b46 => ?_) (fun b46 => ?_)
          · skip
            refine e_aload_n (i := 0) 60 dX11_interest_59 rfl rfl rfl ?_
            refine e_getr (j := 0) 63 fl_11_10 dX11_interest_60 at_0 rfl rfl tp_0_0 rfl ?_
            refine e_getr (j := 1) 66 fl_11_102 dX11_interest_63 at_1 rfl rfl tp_1_1 rfl ?_
            refine e_astore (lsn := [(5, _), (0, _), (1, _), (2, _), (3, _), (4, _)]) 68 dX11_interest_66 (by decide) rfl rfl ?_
            refine e_aload 70 dX11_interest_68 rfl rfl ?_
            refine e_iload_n (i := 2) 71 dX11_interest_70 rfl rfl rfl ?_
            refine e_callV 74 mt_yX1_lends mv_yX1_lends wd_730 (by decide) dX11_interest_71 at_7 jc_1 rfl rfl rfl (Nat.le_of_ble_eq_true rfl) (jroom (by decide)) rfl (c_lends (by omega) lw_7 hC.lrelo.ok (fun w71 => ?_) (fun w71 => ?_))
            · dsimp only [jpush]
              refine e_if_ne 77 80 dX11_interest_74 (by decide) (by decide) rfl (fun _ => ?_) (fun h => absurd h (by decide))
              refine e_aload 82 dX11_interest_80 rfl rfl ?_
              refine e_iload_n (i := 2) 83 dX11_interest_82 rfl rfl rfl ?_
              refine e_iload_n (i := 3) 84 dX11_interest_83 rfl rfl rfl ?_
              refine e_iload 86 dX11_interest_84 rfl rfl ?_
              refine e_callS 89 mt_yX1_halves ms_yX1_halves wd_735 (by decide) dX11_interest_86 rfl rfl (Nat.le_of_ble_eq_true rfl) (jroom (by decide)) rfl (c_halves (by omega) ?_)
              dsimp only [jpush]
              refine e_callV 92 mt_yX1_charge mv_yX1_charge wd_738 (by decide) dX11_interest_89 at_7 jc_1 rfl rfl rfl (Nat.le_of_ble_eq_true rfl) (jroom (by decide)) rfl (c_charge (by omega) (by omega) lw_7 hC.lrelo.ok ?_)
              dsimp only [jpush]
              refine e_iret dX11_interest_92 ?_
              refine jCt_of mt_yX12_interest (Nat.le_of_ble_eq_true rfl) (fun X2 => ?_)
              refine e_aload_n (i := 0) 1 dX12_interest_0 rfl rfl rfl ?_
              refine e_iconst 2 dX12_interest_1 rfl ?_
              refine e_put0 (j := 0) 5 fl_12_1 dX12_interest_2 at_928 rfl rfl rfl (by decide) hI.1 rfl ?_
              refine e_iload_n (i := 1) 6 dX12_interest_5 rfl rfl rfl ?_
              refine e_i2l 7 dX12_interest_6 (by omega) rfl ?_
              refine e_lconst0 8 dX12_interest_7 rfl ?_
              refine e_lconst1 9 dX12_interest_8 rfl ?_
              refine e_callS 12 mt_yX12_within ms_yX12_within wd_1390 (by decide) dX12_interest_9 rfl rfl (Nat.le_of_ble_eq_true rfl) (jroom (by decide)) rfl (m_within (by omega) (by omega) (by omega) (fun w9 => ?_) (fun w9 => ?_))
              · dsimp only [jpush]
                first
                 | (exfalso; omega)
                 | (skip
                    refine e_if_ne 15 18 dX12_interest_12 (by decide) (by decide) rfl (fun _ => ?_) (fun h => absurd h (by decide))
                    refine e_iload_n (i := 2) 19 dX12_interest_18 rfl rfl rfl ?_
                    refine e_i2l 20 dX12_interest_19 (by omega) rfl ?_
                    refine e_lconst1 21 dX12_interest_20 rfl ?_
                    refine e_ldc2 (z := (999)) 24 (ix := 198) wd_1482 (by decide) dX12_interest_21 rfl ?_
                    refine e_callS 27 mt_yX12_within ms_yX12_within wd_1390 (by decide) dX12_interest_24 rfl rfl (Nat.le_of_ble_eq_true rfl) (jroom (by decide)) rfl (m_within (by omega) (by omega) (by omega) (fun w24 => ?_) (fun w24 => ?_))
                    · dsimp only [jpush]
                      first
                       | (exfalso; omega)
                       | (skip
                          refine e_if_eq 30 56 dX12_interest_27 (by decide) (by decide) rfl (fun h => absurd h (by decide)) (fun _ => ?_)
                          refine e_iload_n (i := 3) 31 dX12_interest_30 rfl rfl rfl ?_
                          refine e_i2l 32 dX12_interest_31 (by omega) rfl ?_
                          refine e_lconst0 33 dX12_interest_32 rfl ?_
                          refine e_ldc2 (z := (300)) 36 (ix := 200) wd_1483 (by decide) dX12_interest_33 rfl ?_
                          refine e_callS 39 mt_yX12_within ms_yX12_within wd_1390 (by decide) dX12_interest_36 rfl rfl (Nat.le_of_ble_eq_true rfl) (jroom (by decide)) rfl (m_within (by omega) (by omega) (by omega) (fun w36 => ?_) (fun w36 => ?_))
                          · dsimp only [jpush]
                            first
                             | (exfalso; omega)
                             | (skip
                                refine e_if_eq 42 56 dX12_interest_39 (by decide) (by decide) rfl (fun h => absurd h (by decide)) (fun _ => ?_)
                                refine e_iload 44 dX12_interest_42 rfl rfl ?_
                                refine e_i2l 45 dX12_interest_44 (by omega) rfl ?_
                                refine e_iload_n (i := 3) 46 dX12_interest_45 rfl rfl rfl ?_
                                refine e_i2l 47 dX12_interest_46 (by omega) rfl ?_
                                refine e_ldc2 (z := (300)) 50 (ix := 200) wd_1483 (by decide) dX12_interest_47 rfl ?_
                                refine e_callS 53 mt_yX12_within ms_yX12_within wd_1390 (by decide) dX12_interest_50 rfl rfl (Nat.le_of_ble_eq_true rfl) (jroom (by decide)) rfl (m_within (by omega) (by omega) (by omega) (fun w50 => ?_) (fun w50 => ?_))
                                · dsimp only [jpush]
                                  first
                                   | (exfalso; omega)
                                   | (skip
                                      refine e_if_ne 56 59 dX12_interest_53 (by decide) (by decide) rfl (fun _ => ?_) (fun h => absurd h (by decide))
                                      refine e_iload_n (i := 1) 60 dX12_interest_59 rfl rfl rfl ?_
                                      refine e_iconst 61 dX12_interest_60 rfl ?_
                                      refine e_icmp_ne 64 78 dX12_interest_61 (by omega) (by decide) (by decide) rfl (fun b61 => ?_) (fun b61 => ?_)
                                      · first
                                         | (exfalso; omega)
                                         | (skip
                                            refine e_aload_n (i := 0) 79 dX12_interest_78 rfl rfl rfl ?_
                                            refine e_iload_n (i := 1) 80 dX12_interest_79 rfl rfl rfl ?_
                                            refine e_if_ne 83 87 dX12_interest_80 (by omega) (by decide) rfl (fun b80 => ?_) (fun b80 => ?_)
                                            · first
                                               | (exfalso; omega)
                                               | (skip
                                                  refine e_bipush 89 dX12_interest_87 (by decide) rfl ?_
                                                  refine e_iload_n (i := 2) 90 dX12_interest_89 rfl rfl rfl ?_
                                                  refine e_iload 92 dX12_interest_90 rfl rfl ?_
                                                  refine e_iload_n (i := 3) 93 dX12_interest_92 rfl rfl rfl ?_
                                                  refine e_isub 94 dX12_interest_93 rfl ?_
                                                  refine e_callS 97 mt_yX12_halvesOf ms_yX12_halvesOf wd_1484 (by decide) dX12_interest_94 rfl rfl (Nat.le_of_ble_eq_true rfl) (jroom (by decide)) rfl (m_halvesOf (by omega) ?_)
                                                  dsimp only [jpush]
                                                  refine e_callV 100 mt_yX12_interestBy mv_yX12_interestBy wd_1487 (by decide) dX12_interest_97 at_928 jc_12 rfl rfl rfl (Nat.le_of_ble_eq_true rfl) (jroom (by decide)) rfl (m_interestBy (by decide) (by omega) (by omega) hC.rolaw (fun w97 => ?_) (fun w97 => ?_))
                                                  · dsimp only [jpush]
                                                    have hr1 := rChg_rng (loan := loan) (hv := 1 + (to - fr) / 2) hC.rlaw (by omega) (by omega)
                                                    have hr2 := rChg_rng (loan := loan) (hv := 1 + (to - fr) / 2) hC.rolaw (by omega) (by omega)
                                                    first
                                                     | (exfalso; omega)
                                                     | (skip
                                                        refine e_istore (lsn := [(5, _), (0, _), (1, _), (2, _), (3, _), (4, _)]) 102 dX12_interest_100 (by decide) rfl rfl ?_
                                                        refine e_iload 104 dX12_interest_102 rfl rfl ?_
                                                        refine e_iconst 105 dX12_interest_104 rfl ?_
                                                        refine e_icmp_ne 108 113 dX12_interest_105 (by omega) (by decide) (by decide) rfl (fun b105 => ?_) (fun b105 => ?_)
                                                        · first
                                                           | (exfalso; omega)
                                                           | (skip
                                                              refine e_iload 115 dX12_interest_113 rfl rfl ?_
                                                              refine e_iret dX12_interest_115 ?_
                                                              first
                                                                | (exact ⟨by omega, hI⟩)
                                                                | (rw [hC.lrel.chg]
                                                                   exact ⟨by omega, hI⟩)
                                                                | (rw [hC.lrelo.chg]
                                                                   exact ⟨by omega, hI⟩)
                                                                | (exfalso
                                                                   have q1 := hC.lrel.top
                                                                   have q2 := hC.lrelo.top
                                                                   have q3 := fTop_0 (M := M)
                                                                   omega))
                                                        · first
                                                           | (exfalso; omega)
                                                           | (skip
                                                              refine e_bipush 110 dX12_interest_108 (by decide) rfl ?_
                                                              refine e_goto 115 dX12_interest_110 (by decide) ?_
                                                              refine e_iret dX12_interest_115 ?_
                                                              first
                                                                | (exact ⟨by omega, hI⟩)
                                                                | (rw [hC.lrel.chg]
                                                                   exact ⟨by omega, hI⟩)
                                                                | (rw [hC.lrelo.chg]
                                                                   exact ⟨by omega, hI⟩)
                                                                | (exfalso
                                                                   have q1 := hC.lrel.top
                                                                   have q2 := hC.lrelo.top
                                                                   have q3 := fTop_0 (M := M)
                                                                   omega)))
                                                  · dsimp only [jpush]
                                                    have hr1 := rChg_rng (loan := loan) (hv := 1 + (to - fr) / 2) hC.rlaw (by omega) (by omega)
                                                    have hr2 := rChg_rng (loan := loan) (hv := 1 + (to - fr) / 2) hC.rolaw (by omega) (by omega)
                                                    first
                                                     | (exfalso; omega)
                                                     | (skip
                                                        refine e_istore (lsn := [(5, _), (0, _), (1, _), (2, _), (3, _), (4, _)]) 102 dX12_interest_100 (by decide) rfl rfl ?_
                                                        refine e_iload 104 dX12_interest_102 rfl rfl ?_
                                                        refine e_iconst 105 dX12_interest_104 rfl ?_
                                                        refine e_icmp_ne 108 113 dX12_interest_105 (by decide) (by decide) (by decide) rfl (fun h => absurd h (by decide)) (fun _ => ?_)
                                                        refine e_bipush 110 dX12_interest_108 (by decide) rfl ?_
                                                        refine e_goto 115 dX12_interest_110 (by decide) ?_
                                                        refine e_iret dX12_interest_115 ?_
                                                        first
                                                          | (exact ⟨by omega, hI⟩)
                                                          | (rw [hC.lrel.chg]
                                                             exact ⟨by omega, hI⟩)
                                                          | (rw [hC.lrelo.chg]
                                                             exact ⟨by omega, hI⟩)
                                                          | (exfalso
                                                             have q1 := hC.lrel.top
                                                             have q2 := hC.lrelo.top
                                                             have q3 := fTop_0 (M := M)
                                                             omega)))
                                            · first
                                               | (exfalso; omega)
                                               | (skip
                                                  refine e_iconst 84 dX12_interest_83 rfl ?_
                                                  refine e_goto 89 dX12_interest_84 (by decide) ?_
                                                  refine e_iload_n (i := 2) 90 dX12_interest_89 rfl rfl rfl ?_
                                                  refine e_iload 92 dX12_interest_90 rfl rfl ?_
                                                  refine e_iload_n (i := 3) 93 dX12_interest_92 rfl rfl rfl ?_
                                                  refine e_isub 94 dX12_interest_93 rfl ?_
                                                  refine e_callS 97 mt_yX12_halvesOf ms_yX12_halvesOf wd_1484 (by decide) dX12_interest_94 rfl rfl (Nat.le_of_ble_eq_true rfl) (jroom (by decide)) rfl (m_halvesOf (by omega) ?_)
                                                  dsimp only [jpush]
                                                  refine e_callV 100 mt_yX12_interestBy mv_yX12_interestBy wd_1487 (by decide) dX12_interest_97 at_928 jc_12 rfl rfl rfl (Nat.le_of_ble_eq_true rfl) (jroom (by decide)) rfl (m_interestBy (by decide) (by omega) (by omega) hC.rlaw (fun w97 => ?_) (fun w97 => ?_))
                                                  · dsimp only [jpush]
                                                    have hr1 := rChg_rng (loan := loan) (hv := 1 + (to - fr) / 2) hC.rlaw (by omega) (by omega)
                                                    have hr2 := rChg_rng (loan := loan) (hv := 1 + (to - fr) / 2) hC.rolaw (by omega) (by omega)
                                                    first
                                                     | (exfalso; omega)
                                                     | (skip
                                                        refine e_istore (lsn := [(5, _), (0, _), (1, _), (2, _), (3, _), (4, _)]) 102 dX12_interest_100 (by decide) rfl rfl ?_
                                                        refine e_iload 104 dX12_interest_102 rfl rfl ?_
                                                        refine e_iconst 105 dX12_interest_104 rfl ?_
                                                        refine e_icmp_ne 108 113 dX12_interest_105 (by omega) (by decide) (by decide) rfl (fun b105 => ?_) (fun b105 => ?_)
                                                        · first
                                                           | (exfalso; omega)
                                                           | (skip
                                                              refine e_iload 115 dX12_interest_113 rfl rfl ?_
                                                              refine e_iret dX12_interest_115 ?_
                                                              first
                                                                | (exact ⟨by omega, hI⟩)
                                                                | (rw [hC.lrel.chg]
                                                                   exact ⟨by omega, hI⟩)
                                                                | (rw [hC.lrelo.chg]
                                                                   exact ⟨by omega, hI⟩)
                                                                | (exfalso
                                                                   have q1 := hC.lrel.top
                                                                   have q2 := hC.lrelo.top
                                                                   have q3 := fTop_0 (M := M)
                                                                   omega))
                                                        · first
                                                           | (exfalso; omega)
                                                           | (skip
                                                              refine e_bipush 110 dX12_interest_108 (by decide) rfl ?_
                                                              refine e_goto 115 dX12_interest_110 (by decide) ?_
                                                              refine e_iret dX12_interest_115 ?_
                                                              first
                                                                | (exact ⟨by omega, hI⟩)
                                                                | (rw [hC.lrel.chg]
                                                                   exact ⟨by omega, hI⟩)
                                                                | (rw [hC.lrelo.chg]
                                                                   exact ⟨by omega, hI⟩)
                                                                | (exfalso
                                                                   have q1 := hC.lrel.top
                                                                   have q2 := hC.lrelo.top
                                                                   have q3 := fTop_0 (M := M)
                                                                   omega)))
                                                  · dsimp only [jpush]
                                                    have hr1 := rChg_rng (loan := loan) (hv := 1 + (to - fr) / 2) hC.rlaw (by omega) (by omega)
                                                    have hr2 := rChg_rng (loan := loan) (hv := 1 + (to - fr) / 2) hC.rolaw (by omega) (by omega)
                                                    first
                                                     | (exfalso; omega)
                                                     | (skip
                                                        refine e_istore (lsn := [(5, _), (0, _), (1, _), (2, _), (3, _), (4, _)]) 102 dX12_interest_100 (by decide) rfl rfl ?_
                                                        refine e_iload 104 dX12_interest_102 rfl rfl ?_
                                                        refine e_iconst 105 dX12_interest_104 rfl ?_
                                                        refine e_icmp_ne 108 113 dX12_interest_105 (by decide) (by decide) (by decide) rfl (fun h => absurd h (by decide)) (fun _ => ?_)
                                                        refine e_bipush 110 dX12_interest_108 (by decide) rfl ?_
                                                        refine e_goto 115 dX12_interest_110 (by decide) ?_
                                                        refine e_iret dX12_interest_115 ?_
                                                        first
                                                          | (exact ⟨by omega, hI⟩)
                                                          | (rw [hC.lrel.chg]
                                                             exact ⟨by omega, hI⟩)
                                                          | (rw [hC.lrelo.chg]
                                                             exact ⟨by omega, hI⟩)
                                                          | (exfalso
                                                             have q1 := hC.lrel.top
                                                             have q2 := hC.lrelo.top
                                                             have q3 := fTop_0 (M := M)
                                                             omega))))
                                      · first
                                         | (exfalso; omega)
                                         | (skip
                                            refine e_aload_n (i := 0) 65 dX12_interest_64 rfl rfl rfl ?_
                                            refine e_getr (j := 1) 68 fl_12_13 dX12_interest_65 at_928 rfl rfl tp_928_1 rfl ?_
                                            refine e_bipush 70 dX12_interest_68 (by decide) rfl ?_
                                            refine e_iald 71 dX12_interest_70 ar_929 (by decide) (by decide) rfl (fun r70 => ?_)
                                            refine e_if_ne 74 78 dX12_interest_71 (by omega) (by decide) rfl (fun b71 => ?_) (fun b71 => ?_)
                                            · first
                                               | (exfalso; omega)
                                               | (skip
                                                  refine e_aload_n (i := 0) 79 dX12_interest_78 rfl rfl rfl ?_
                                                  refine e_iload_n (i := 1) 80 dX12_interest_79 rfl rfl rfl ?_
                                                  refine e_if_ne 83 87 dX12_interest_80 (by omega) (by decide) rfl (fun b80 => ?_) (fun b80 => ?_)
                                                  · first
                                                     | (exfalso; omega)
                                                     | (skip
                                                        refine e_bipush 89 dX12_interest_87 (by decide) rfl ?_
                                                        refine e_iload_n (i := 2) 90 dX12_interest_89 rfl rfl rfl ?_
                                                        refine e_iload 92 dX12_interest_90 rfl rfl ?_
                                                        refine e_iload_n (i := 3) 93 dX12_interest_92 rfl rfl rfl ?_
                                                        refine e_isub 94 dX12_interest_93 rfl ?_
                                                        refine e_callS 97 mt_yX12_halvesOf ms_yX12_halvesOf wd_1484 (by decide) dX12_interest_94 rfl rfl (Nat.le_of_ble_eq_true rfl) (jroom (by decide)) rfl (m_halvesOf (by omega) ?_)
                                                        dsimp only [jpush]
                                                        refine e_callV 100 mt_yX12_interestBy mv_yX12_interestBy wd_1487 (by decide) dX12_interest_97 at_928 jc_12 rfl rfl rfl (Nat.le_of_ble_eq_true rfl) (jroom (by decide)) rfl (m_interestBy (by decide) (by omega) (by omega) hC.rolaw (fun w97 => ?_) (fun w97 => ?_))
                                                        · dsimp only [jpush]
                                                          have hr1 := rChg_rng (loan := loan) (hv := 1 + (to - fr) / 2) hC.rlaw (by omega) (by omega)
                                                          have hr2 := rChg_rng (loan := loan) (hv := 1 + (to - fr) / 2) hC.rolaw (by omega) (by omega)
                                                          first
                                                           | (exfalso; omega)
                                                           | (skip
                                                              refine e_istore (lsn := [(5, _), (0, _), (1, _), (2, _), (3, _), (4, _)]) 102 dX12_interest_100 (by decide) rfl rfl ?_
                                                              refine e_iload 104 dX12_interest_102 rfl rfl ?_
                                                              refine e_iconst 105 dX12_interest_104 rfl ?_
                                                              refine e_icmp_ne 108 113 dX12_interest_105 (by omega) (by decide) (by decide) rfl (fun b105 => ?_) (fun b105 => ?_)
                                                              · first
                                                                 | (exfalso; omega)
                                                                 | (skip
                                                                    refine e_iload 115 dX12_interest_113 rfl rfl ?_
                                                                    refine e_iret dX12_interest_115 ?_
                                                                    first
                                                                      | (exact ⟨by omega, hI⟩)
                                                                      | (rw [hC.lrel.chg]
                                                                         exact ⟨by omega, hI⟩)
                                                                      | (rw [hC.lrelo.chg]
                                                                         exact ⟨by omega, hI⟩)
                                                                      | (exfalso
                                                                         have q1 := hC.lrel.top
                                                                         have q2 := hC.lrelo.top
                                                                         have q3 := fTop_0 (M := M)
                                                                         omega))
                                                              · first
                                                                 | (exfalso; omega)
                                                                 | (skip
                                                                    refine e_bipush 110 dX12_interest_108 (by decide) rfl ?_
                                                                    refine e_goto 115 dX12_interest_110 (by decide) ?_
                                                                    refine e_iret dX12_interest_115 ?_
                                                                    first
                                                                      | (exact ⟨by omega, hI⟩)
                                                                      | (rw [hC.lrel.chg]
                                                                         exact ⟨by omega, hI⟩)
                                                                      | (rw [hC.lrelo.chg]
                                                                         exact ⟨by omega, hI⟩)
                                                                      | (exfalso
                                                                         have q1 := hC.lrel.top
                                                                         have q2 := hC.lrelo.top
                                                                         have q3 := fTop_0 (M := M)
                                                                         omega)))
                                                        · dsimp only [jpush]
                                                          have hr1 := rChg_rng (loan := loan) (hv := 1 + (to - fr) / 2) hC.rlaw (by omega) (by omega)
                                                          have hr2 := rChg_rng (loan := loan) (hv := 1 + (to - fr) / 2) hC.rolaw (by omega) (by omega)
                                                          first
                                                           | (exfalso; omega)
                                                           | (skip
                                                              refine e_istore (lsn := [(5, _), (0, _), (1, _), (2, _), (3, _), (4, _)]) 102 dX12_interest_100 (by decide) rfl rfl ?_
                                                              refine e_iload 104 dX12_interest_102 rfl rfl ?_
                                                              refine e_iconst 105 dX12_interest_104 rfl ?_
                                                              refine e_icmp_ne 108 113 dX12_interest_105 (by decide) (by decide) (by decide) rfl (fun h => absurd h (by decide)) (fun _ => ?_)
                                                              refine e_bipush 110 dX12_interest_108 (by decide) rfl ?_
                                                              refine e_goto 115 dX12_interest_110 (by decide) ?_
                                                              refine e_iret dX12_interest_115 ?_
                                                              first
                                                                | (exact ⟨by omega, hI⟩)
                                                                | (rw [hC.lrel.chg]
                                                                   exact ⟨by omega, hI⟩)
                                                                | (rw [hC.lrelo.chg]
                                                                   exact ⟨by omega, hI⟩)
                                                                | (exfalso
                                                                   have q1 := hC.lrel.top
                                                                   have q2 := hC.lrelo.top
                                                                   have q3 := fTop_0 (M := M)
                                                                   omega)))
                                                  · first
                                                     | (exfalso; omega)
                                                     | (skip
                                                        refine e_iconst 84 dX12_interest_83 rfl ?_
                                                        refine e_goto 89 dX12_interest_84 (by decide) ?_
                                                        refine e_iload_n (i := 2) 90 dX12_interest_89 rfl rfl rfl ?_
                                                        refine e_iload 92 dX12_interest_90 rfl rfl ?_
                                                        refine e_iload_n (i := 3) 93 dX12_interest_92 rfl rfl rfl ?_
                                                        refine e_isub 94 dX12_interest_93 rfl ?_
                                                        refine e_callS 97 mt_yX12_halvesOf ms_yX12_halvesOf wd_1484 (by decide) dX12_interest_94 rfl rfl (Nat.le_of_ble_eq_true rfl) (jroom (by decide)) rfl (m_halvesOf (by omega) ?_)
                                                        dsimp only [jpush]
                                                        refine e_callV 100 mt_yX12_interestBy mv_yX12_interestBy wd_1487 (by decide) dX12_interest_97 at_928 jc_12 rfl rfl rfl (Nat.le_of_ble_eq_true rfl) (jroom (by decide)) rfl (m_interestBy (by decide) (by omega) (by omega) hC.rlaw (fun w97 => ?_) (fun w97 => ?_))
                                                        · dsimp only [jpush]
                                                          have hr1 := rChg_rng (loan := loan) (hv := 1 + (to - fr) / 2) hC.rlaw (by omega) (by omega)
                                                          have hr2 := rChg_rng (loan := loan) (hv := 1 + (to - fr) / 2) hC.rolaw (by omega) (by omega)
                                                          first
                                                           | (exfalso; omega)
                                                           | (skip
                                                              refine e_istore (lsn := [(5, _), (0, _), (1, _), (2, _), (3, _), (4, _)]) 102 dX12_interest_100 (by decide) rfl rfl ?_
                                                              refine e_iload 104 dX12_interest_102 rfl rfl ?_
                                                              refine e_iconst 105 dX12_interest_104 rfl ?_
                                                              refine e_icmp_ne 108 113 dX12_interest_105 (by omega) (by decide) (by decide) rfl (fun b105 => ?_) (fun b105 => ?_)
                                                              · first
                                                                 | (exfalso; omega)
                                                                 | (skip
                                                                    refine e_iload 115 dX12_interest_113 rfl rfl ?_
                                                                    refine e_iret dX12_interest_115 ?_
                                                                    first
                                                                      | (exact ⟨by omega, hI⟩)
                                                                      | (rw [hC.lrel.chg]
                                                                         exact ⟨by omega, hI⟩)
                                                                      | (rw [hC.lrelo.chg]
                                                                         exact ⟨by omega, hI⟩)
                                                                      | (exfalso
                                                                         have q1 := hC.lrel.top
                                                                         have q2 := hC.lrelo.top
                                                                         have q3 := fTop_0 (M := M)
                                                                         omega))
                                                              · first
                                                                 | (exfalso; omega)
                                                                 | (skip
                                                                    refine e_bipush 110 dX12_interest_108 (by decide) rfl ?_
                                                                    refine e_goto 115 dX12_interest_110 (by decide) ?_
                                                                    refine e_iret dX12_interest_115 ?_
                                                                    first
                                                                      | (exact ⟨by omega, hI⟩)
                                                                      | (rw [hC.lrel.chg]
                                                                         exact ⟨by omega, hI⟩)
                                                                      | (rw [hC.lrelo.chg]
                                                                         exact ⟨by omega, hI⟩)
                                                                      | (exfalso
                                                                         have q1 := hC.lrel.top
                                                                         have q2 := hC.lrelo.top
                                                                         have q3 := fTop_0 (M := M)
                                                                         omega)))
                                                        · dsimp only [jpush]
                                                          have hr1 := rChg_rng (loan := loan) (hv := 1 + (to - fr) / 2) hC.rlaw (by omega) (by omega)
                                                          have hr2 := rChg_rng (loan := loan) (hv := 1 + (to - fr) / 2) hC.rolaw (by omega) (by omega)
                                                          first
                                                           | (exfalso; omega)
                                                           | (skip
                                                              refine e_istore (lsn := [(5, _), (0, _), (1, _), (2, _), (3, _), (4, _)]) 102 dX12_interest_100 (by decide) rfl rfl ?_
                                                              refine e_iload 104 dX12_interest_102 rfl rfl ?_
                                                              refine e_iconst 105 dX12_interest_104 rfl ?_
                                                              refine e_icmp_ne 108 113 dX12_interest_105 (by decide) (by decide) (by decide) rfl (fun h => absurd h (by decide)) (fun _ => ?_)
                                                              refine e_bipush 110 dX12_interest_108 (by decide) rfl ?_
                                                              refine e_goto 115 dX12_interest_110 (by decide) ?_
                                                              refine e_iret dX12_interest_115 ?_
                                                              first
                                                                | (exact ⟨by omega, hI⟩)
                                                                | (rw [hC.lrel.chg]
                                                                   exact ⟨by omega, hI⟩)
                                                                | (rw [hC.lrelo.chg]
                                                                   exact ⟨by omega, hI⟩)
                                                                | (exfalso
                                                                   have q1 := hC.lrel.top
                                                                   have q2 := hC.lrelo.top
                                                                   have q3 := fTop_0 (M := M)
                                                                   omega))))
                                            · first
                                               | (exfalso; omega)
                                               | (skip
                                                  refine e_iconst 75 dX12_interest_74 rfl ?_
                                                  refine e_goto 100 dX12_interest_75 (by decide) ?_
                                                  refine e_istore (lsn := [(5, _), (0, _), (1, _), (2, _), (3, _), (4, _)]) 102 dX12_interest_100 (by decide) rfl rfl ?_
                                                  refine e_iload 104 dX12_interest_102 rfl rfl ?_
                                                  refine e_iconst 105 dX12_interest_104 rfl ?_
                                                  refine e_icmp_ne 108 113 dX12_interest_105 (by decide) (by decide) (by decide) rfl (fun h => absurd h (by decide)) (fun _ => ?_)
                                                  refine e_bipush 110 dX12_interest_108 (by decide) rfl ?_
                                                  refine e_goto 115 dX12_interest_110 (by decide) ?_
                                                  refine e_iret dX12_interest_115 ?_
                                                  first
                                                    | (exact ⟨by omega, hI⟩)
                                                    | (rw [hC.lrel.chg]
                                                       exact ⟨by omega, hI⟩)
                                                    | (rw [hC.lrelo.chg]
                                                       exact ⟨by omega, hI⟩)
                                                    | (exfalso
                                                       have q1 := hC.lrel.top
                                                       have q2 := hC.lrelo.top
                                                       have q3 := fTop_0 (M := M)
                                                       omega))))
                                · dsimp only [jpush]
                                  first
                                   | (exfalso; omega)
                                   | (skip
                                      refine e_if_ne 56 59 dX12_interest_53 (by decide) (by decide) rfl (fun h => absurd h (by decide)) (fun _ => ?_)
                                      refine e_bipush 58 dX12_interest_56 (by decide) rfl ?_
                                      refine e_iret dX12_interest_58 ?_
                                      first
                                        | (exact ⟨by omega, hI⟩)
                                        | (rw [hC.lrel.chg]
                                           exact ⟨by omega, hI⟩)
                                        | (rw [hC.lrelo.chg]
                                           exact ⟨by omega, hI⟩)
                                        | (exfalso
                                           have q1 := hC.lrel.top
                                           have q2 := hC.lrelo.top
                                           have q3 := fTop_0 (M := M)
                                           omega)))
                          · dsimp only [jpush]
                            first
                             | (exfalso; omega)
                             | (skip
                                refine e_if_eq 42 56 dX12_interest_39 (by decide) (by decide) rfl (fun _ => ?_) (fun h => absurd h (by decide))
                                refine e_bipush 58 dX12_interest_56 (by decide) rfl ?_
                                refine e_iret dX12_interest_58 ?_
                                first
                                  | (exact ⟨by omega, hI⟩)
                                  | (rw [hC.lrel.chg]
                                     exact ⟨by omega, hI⟩)
                                  | (rw [hC.lrelo.chg]
                                     exact ⟨by omega, hI⟩)
                                  | (exfalso
                                     have q1 := hC.lrel.top
                                     have q2 := hC.lrelo.top
                                     have q3 := fTop_0 (M := M)
                                     omega)))
                    · dsimp only [jpush]
                      first
                       | (exfalso; omega)
                       | (skip
                          refine e_if_eq 30 56 dX12_interest_27 (by decide) (by decide) rfl (fun _ => ?_) (fun h => absurd h (by decide))
                          refine e_bipush 58 dX12_interest_56 (by decide) rfl ?_
                          refine e_iret dX12_interest_58 ?_
                          first
                            | (exact ⟨by omega, hI⟩)
                            | (rw [hC.lrel.chg]
                               exact ⟨by omega, hI⟩)
                            | (rw [hC.lrelo.chg]
                               exact ⟨by omega, hI⟩)
                            | (exfalso
                               have q1 := hC.lrel.top
                               have q2 := hC.lrelo.top
                               have q3 := fTop_0 (M := M)
                               omega)))
              · dsimp only [jpush]
                first
                 | (exfalso; omega)
                 | (skip
                    refine e_if_ne 15 18 dX12_interest_12 (by decide) (by decide) rfl (fun h => absurd h (by decide)) (fun _ => ?_)
                    refine e_bipush 17 dX12_interest_15 (by decide) rfl ?_
                    refine e_iret dX12_interest_17 ?_
                    first
                      | (exact ⟨by omega, hI⟩)
                      | (rw [hC.lrel.chg]
                         exact ⟨by omega, hI⟩)
                      | (rw [hC.lrelo.chg]
                         exact ⟨by omega, hI⟩)
                      | (exfalso
                         have q1 := hC.lrel.top
                         have q2 := hC.lrelo.top
                         have q3 := fTop_0 (M := M)
                         omega))
            · dsimp only [jpush]
              refine e_if_ne 77 80 dX11_interest_74 (by decide) (by decide) rfl (fun h => absurd h (by decide)) (fun _ => ?_)
              refine e_bipush 79 dX11_interest_77 (by decide) rfl ?_
              refine e_iret dX11_interest_79 ?_
              refine jCt_of mt_yX12_interest (Nat.le_of_ble_eq_true rfl) (fun X2 => ?_)
              refine e_aload_n (i := 0) 1 dX12_interest_0 rfl rfl rfl ?_
              refine e_iconst 2 dX12_interest_1 rfl ?_
              refine e_put0 (j := 0) 5 fl_12_1 dX12_interest_2 at_928 rfl rfl rfl (by decide) hI.1 rfl ?_
              refine e_iload_n (i := 1) 6 dX12_interest_5 rfl rfl rfl ?_
              refine e_i2l 7 dX12_interest_6 (by omega) rfl ?_
              refine e_lconst0 8 dX12_interest_7 rfl ?_
              refine e_lconst1 9 dX12_interest_8 rfl ?_
              refine e_callS 12 mt_yX12_within ms_yX12_within wd_1390 (by decide) dX12_interest_9 rfl rfl (Nat.le_of_ble_eq_true rfl) (jroom (by decide)) rfl (m_within (by omega) (by omega) (by omega) (fun w9 => ?_) (fun w9 => ?_))
              · dsimp only [jpush]
                first
                 | (exfalso; omega)
                 | (skip
                    refine e_if_ne 15 18 dX12_interest_12 (by decide) (by decide) rfl (fun _ => ?_) (fun h => absurd h (by decide))
                    refine e_iload_n (i := 2) 19 dX12_interest_18 rfl rfl rfl ?_
                    refine e_i2l 20 dX12_interest_19 (by omega) rfl ?_
                    refine e_lconst1 21 dX12_interest_20 rfl ?_
                    refine e_ldc2 (z := (999)) 24 (ix := 198) wd_1482 (by decide) dX12_interest_21 rfl ?_
                    refine e_callS 27 mt_yX12_within ms_yX12_within wd_1390 (by decide) dX12_interest_24 rfl rfl (Nat.le_of_ble_eq_true rfl) (jroom (by decide)) rfl (m_within (by omega) (by omega) (by omega) (fun w24 => ?_) (fun w24 => ?_))
                    · dsimp only [jpush]
                      first
                       | (exfalso; omega)
                       | (skip
                          refine e_if_eq 30 56 dX12_interest_27 (by decide) (by decide) rfl (fun h => absurd h (by decide)) (fun _ => ?_)
                          refine e_iload_n (i := 3) 31 dX12_interest_30 rfl rfl rfl ?_
                          refine e_i2l 32 dX12_interest_31 (by omega) rfl ?_
                          refine e_lconst0 33 dX12_interest_32 rfl ?_
                          refine e_ldc2 (z := (300)) 36 (ix := 200) wd_1483 (by decide) dX12_interest_33 rfl ?_
                          refine e_callS 39 mt_yX12_within ms_yX12_within wd_1390 (by decide) dX12_interest_36 rfl rfl (Nat.le_of_ble_eq_true rfl) (jroom (by decide)) rfl (m_within (by omega) (by omega) (by omega) (fun w36 => ?_) (fun w36 => ?_))
                          · dsimp only [jpush]
                            first
                             | (exfalso; omega)
                             | (skip
                                refine e_if_eq 42 56 dX12_interest_39 (by decide) (by decide) rfl (fun h => absurd h (by decide)) (fun _ => ?_)
                                refine e_iload 44 dX12_interest_42 rfl rfl ?_
                                refine e_i2l 45 dX12_interest_44 (by omega) rfl ?_
                                refine e_iload_n (i := 3) 46 dX12_interest_45 rfl rfl rfl ?_
                                refine e_i2l 47 dX12_interest_46 (by omega) rfl ?_
                                refine e_ldc2 (z := (300)) 50 (ix := 200) wd_1483 (by decide) dX12_interest_47 rfl ?_
                                refine e_callS 53 mt_yX12_within ms_yX12_within wd_1390 (by decide) dX12_interest_50 rfl rfl (Nat.le_of_ble_eq_true rfl) (jroom (by decide)) rfl (m_within (by omega) (by omega) (by omega) (fun w50 => ?_) (fun w50 => ?_))
                                · dsimp only [jpush]
                                  first
                                   | (exfalso; omega)
                                   | (skip
                                      refine e_if_ne 56 59 dX12_interest_53 (by decide) (by decide) rfl (fun _ => ?_) (fun h => absurd h (by decide))
                                      refine e_iload_n (i := 1) 60 dX12_interest_59 rfl rfl rfl ?_
                                      refine e_iconst 61 dX12_interest_60 rfl ?_
                                      refine e_icmp_ne 64 78 dX12_interest_61 (by omega) (by decide) (by decide) rfl (fun b61 => ?_) (fun b61 => ?_)
                                      · first
                                         | (exfalso; omega)
                                         | (skip
                                            refine e_aload_n (i := 0) 79 dX12_interest_78 rfl rfl rfl ?_
                                            refine e_iload_n (i := 1) 80 dX12_interest_79 rfl rfl rfl ?_
                                            refine e_if_ne 83 87 dX12_interest_80 (by omega) (by decide) rfl (fun b80 => ?_) (fun b80 => ?_)
                                            · first
                                               | (exfalso; omega)
                                               | (skip
                                                  refine e_bipush 89 dX12_interest_87 (by decide) rfl ?_
                                                  refine e_iload_n (i := 2) 90 dX12_interest_89 rfl rfl rfl ?_
                                                  refine e_iload 92 dX12_interest_90 rfl rfl ?_
                                                  refine e_iload_n (i := 3) 93 dX12_interest_92 rfl rfl rfl ?_
                                                  refine e_isub 94 dX12_interest_93 rfl ?_
                                                  refine e_callS 97 mt_yX12_halvesOf ms_yX12_halvesOf wd_1484 (by decide) dX12_interest_94 rfl rfl (Nat.le_of_ble_eq_true rfl) (jroom (by decide)) rfl (m_halvesOf (by omega) ?_)
                                                  dsimp only [jpush]
                                                  refine e_callV 100 mt_yX12_interestBy mv_yX12_interestBy wd_1487 (by decide) dX12_interest_97 at_928 jc_12 rfl rfl rfl (Nat.le_of_ble_eq_true rfl) (jroom (by decide)) rfl (m_interestBy (by decide) (by omega) (by omega) hC.rolaw (fun w97 => ?_) (fun w97 => ?_))
                                                  · dsimp only [jpush]
                                                    have hr1 := rChg_rng (loan := loan) (hv := 1 + (to - fr) / 2) hC.rlaw (by omega) (by omega)
                                                    have hr2 := rChg_rng (loan := loan) (hv := 1 + (to - fr) / 2) hC.rolaw (by omega) (by omega)
                                                    first
                                                     | (exfalso; omega)
                                                     | (skip
                                                        refine e_istore (lsn := [(5, _), (0, _), (1, _), (2, _), (3, _), (4, _)]) 102 dX12_interest_100 (by decide) rfl rfl ?_
                                                        refine e_iload 104 dX12_interest_102 rfl rfl ?_
                                                        refine e_iconst 105 dX12_interest_104 rfl ?_
                                                        refine e_icmp_ne 108 113 dX12_interest_105 (by omega) (by decide) (by decide) rfl (fun b105 => ?_) (fun b105 => ?_)
                                                        · first
                                                           | (exfalso; omega)
                                                           | (skip
                                                              refine e_iload 115 dX12_interest_113 rfl rfl ?_
                                                              refine e_iret dX12_interest_115 ?_
                                                              first
                                                                | (exact ⟨by omega, hI⟩)
                                                                | (rw [hC.lrel.chg]
                                                                   exact ⟨by omega, hI⟩)
                                                                | (rw [hC.lrelo.chg]
                                                                   exact ⟨by omega, hI⟩)
                                                                | (exfalso
                                                                   have q1 := hC.lrel.top
                                                                   have q2 := hC.lrelo.top
                                                                   have q3 := fTop_0 (M := M)
                                                                   omega))
                                                        · first
                                                           | (exfalso; omega)
                                                           | (skip
                                                              refine e_bipush 110 dX12_interest_108 (by decide) rfl ?_
                                                              refine e_goto 115 dX12_interest_110 (by decide) ?_
                                                              refine e_iret dX12_interest_115 ?_
                                                              first
                                                                | (exact ⟨by omega, hI⟩)
                                                                | (rw [hC.lrel.chg]
                                                                   exact ⟨by omega, hI⟩)
                                                                | (rw [hC.lrelo.chg]
                                                                   exact ⟨by omega, hI⟩)
                                                                | (exfalso
                                                                   have q1 := hC.lrel.top
                                                                   have q2 := hC.lrelo.top
                                                                   have q3 := fTop_0 (M := M)
                                                                   omega)))
                                                  · dsimp only [jpush]
                                                    have hr1 := rChg_rng (loan := loan) (hv := 1 + (to - fr) / 2) hC.rlaw (by omega) (by omega)
                                                    have hr2 := rChg_rng (loan := loan) (hv := 1 + (to - fr) / 2) hC.rolaw (by omega) (by omega)
                                                    first
                                                     | (exfalso; omega)
                                                     | (skip
                                                        refine e_istore (lsn := [(5, _), (0, _), (1, _), (2, _), (3, _), (4, _)]) 102 dX12_interest_100 (by decide) rfl rfl ?_
                                                        refine e_iload 104 dX12_interest_102 rfl rfl ?_
                                                        refine e_iconst 105 dX12_interest_104 rfl ?_
                                                        refine e_icmp_ne 108 113 dX12_interest_105 (by decide) (by decide) (by decide) rfl (fun h => absurd h (by decide)) (fun _ => ?_)
                                                        refine e_bipush 110 dX12_interest_108 (by decide) rfl ?_
                                                        refine e_goto 115 dX12_interest_110 (by decide) ?_
                                                        refine e_iret dX12_interest_115 ?_
                                                        first
                                                          | (exact ⟨by omega, hI⟩)
                                                          | (rw [hC.lrel.chg]
                                                             exact ⟨by omega, hI⟩)
                                                          | (rw [hC.lrelo.chg]
                                                             exact ⟨by omega, hI⟩)
                                                          | (exfalso
                                                             have q1 := hC.lrel.top
                                                             have q2 := hC.lrelo.top
                                                             have q3 := fTop_0 (M := M)
                                                             omega)))
                                            · first
                                               | (exfalso; omega)
                                               | (skip
                                                  refine e_iconst 84 dX12_interest_83 rfl ?_
                                                  refine e_goto 89 dX12_interest_84 (by decide) ?_
                                                  refine e_iload_n (i := 2) 90 dX12_interest_89 rfl rfl rfl ?_
                                                  refine e_iload 92 dX12_interest_90 rfl rfl ?_
                                                  refine e_iload_n (i := 3) 93 dX12_interest_92 rfl rfl rfl ?_
                                                  refine e_isub 94 dX12_interest_93 rfl ?_
                                                  refine e_callS 97 mt_yX12_halvesOf ms_yX12_halvesOf wd_1484 (by decide) dX12_interest_94 rfl rfl (Nat.le_of_ble_eq_true rfl) (jroom (by decide)) rfl (m_halvesOf (by omega) ?_)
                                                  dsimp only [jpush]
                                                  refine e_callV 100 mt_yX12_interestBy mv_yX12_interestBy wd_1487 (by decide) dX12_interest_97 at_928 jc_12 rfl rfl rfl (Nat.le_of_ble_eq_true rfl) (jroom (by decide)) rfl (m_interestBy (by decide) (by omega) (by omega) hC.rlaw (fun w97 => ?_) (fun w97 => ?_))
                                                  · dsimp only [jpush]
                                                    have hr1 := rChg_rng (loan := loan) (hv := 1 + (to - fr) / 2) hC.rlaw (by omega) (by omega)
                                                    have hr2 := rChg_rng (loan := loan) (hv := 1 + (to - fr) / 2) hC.rolaw (by omega) (by omega)
                                                    first
                                                     | (exfalso; omega)
                                                     | (skip
                                                        refine e_istore (lsn := [(5, _), (0, _), (1, _), (2, _), (3, _), (4, _)]) 102 dX12_interest_100 (by decide) rfl rfl ?_
                                                        refine e_iload 104 dX12_interest_102 rfl rfl ?_
                                                        refine e_iconst 105 dX12_interest_104 rfl ?_
                                                        refine e_icmp_ne 108 113 dX12_interest_105 (by omega) (by decide) (by decide) rfl (fun b105 => ?_) (fun b105 => ?_)
                                                        · first
                                                           | (exfalso; omega)
                                                           | (skip
                                                              refine e_iload 115 dX12_interest_113 rfl rfl ?_
                                                              refine e_iret dX12_interest_115 ?_
                                                              first
                                                                | (exact ⟨by omega, hI⟩)
                                                                | (rw [hC.lrel.chg]
                                                                   exact ⟨by omega, hI⟩)
                                                                | (rw [hC.lrelo.chg]
                                                                   exact ⟨by omega, hI⟩)
                                                                | (exfalso
                                                                   have q1 := hC.lrel.top
                                                                   have q2 := hC.lrelo.top
                                                                   have q3 := fTop_0 (M := M)
                                                                   omega))
                                                        · first
                                                           | (exfalso; omega)
                                                           | (skip
                                                              refine e_bipush 110 dX12_interest_108 (by decide) rfl ?_
                                                              refine e_goto 115 dX12_interest_110 (by decide) ?_
                                                              refine e_iret dX12_interest_115 ?_
                                                              first
                                                                | (exact ⟨by omega, hI⟩)
                                                                | (rw [hC.lrel.chg]
                                                                   exact ⟨by omega, hI⟩)
                                                                | (rw [hC.lrelo.chg]
                                                                   exact ⟨by omega, hI⟩)
                                                                | (exfalso
                                                                   have q1 := hC.lrel.top
                                                                   have q2 := hC.lrelo.top
                                                                   have q3 := fTop_0 (M := M)
                                                                   omega)))
                                                  · dsimp only [jpush]
                                                    have hr1 := rChg_rng (loan := loan) (hv := 1 + (to - fr) / 2) hC.rlaw (by omega) (by omega)
                                                    have hr2 := rChg_rng (loan := loan) (hv := 1 + (to - fr) / 2) hC.rolaw (by omega) (by omega)
                                                    first
                                                     | (exfalso; omega)
                                                     | (skip
                                                        refine e_istore (lsn := [(5, _), (0, _), (1, _), (2, _), (3, _), (4, _)]) 102 dX12_interest_100 (by decide) rfl rfl ?_
                                                        refine e_iload 104 dX12_interest_102 rfl rfl ?_
                                                        refine e_iconst 105 dX12_interest_104 rfl ?_
                                                        refine e_icmp_ne 108 113 dX12_interest_105 (by decide) (by decide) (by decide) rfl (fun h => absurd h (by decide)) (fun _ => ?_)
                                                        refine e_bipush 110 dX12_interest_108 (by decide) rfl ?_
                                                        refine e_goto 115 dX12_interest_110 (by decide) ?_
                                                        refine e_iret dX12_interest_115 ?_
                                                        first
                                                          | (exact ⟨by omega, hI⟩)
                                                          | (rw [hC.lrel.chg]
                                                             exact ⟨by omega, hI⟩)
                                                          | (rw [hC.lrelo.chg]
                                                             exact ⟨by omega, hI⟩)
                                                          | (exfalso
                                                             have q1 := hC.lrel.top
                                                             have q2 := hC.lrelo.top
                                                             have q3 := fTop_0 (M := M)
                                                             omega))))
                                      · first
                                         | (exfalso; omega)
                                         | (skip
                                            refine e_aload_n (i := 0) 65 dX12_interest_64 rfl rfl rfl ?_
                                            refine e_getr (j := 1) 68 fl_12_13 dX12_interest_65 at_928 rfl rfl tp_928_1 rfl ?_
                                            refine e_bipush 70 dX12_interest_68 (by decide) rfl ?_
                                            refine e_iald 71 dX12_interest_70 ar_929 (by decide) (by decide) rfl (fun r70 => ?_)
                                            refine e_if_ne 74 78 dX12_interest_71 (by omega) (by decide) rfl (fun b71 => ?_) (fun b71 => ?_)
                                            · first
                                               | (exfalso; omega)
                                               | (skip
                                                  refine e_aload_n (i := 0) 79 dX12_interest_78 rfl rfl rfl ?_
                                                  refine e_iload_n (i := 1) 80 dX12_interest_79 rfl rfl rfl ?_
                                                  refine e_if_ne 83 87 dX12_interest_80 (by omega) (by decide) rfl (fun b80 => ?_) (fun b80 => ?_)
                                                  · first
                                                     | (exfalso; omega)
                                                     | (skip
                                                        refine e_bipush 89 dX12_interest_87 (by decide) rfl ?_
                                                        refine e_iload_n (i := 2) 90 dX12_interest_89 rfl rfl rfl ?_
                                                        refine e_iload 92 dX12_interest_90 rfl rfl ?_
                                                        refine e_iload_n (i := 3) 93 dX12_interest_92 rfl rfl rfl ?_
                                                        refine e_isub 94 dX12_interest_93 rfl ?_
                                                        refine e_callS 97 mt_yX12_halvesOf ms_yX12_halvesOf wd_1484 (by decide) dX12_interest_94 rfl rfl (Nat.le_of_ble_eq_true rfl) (jroom (by decide)) rfl (m_halvesOf (by omega) ?_)
                                                        dsimp only [jpush]
                                                        refine e_callV 100 mt_yX12_interestBy mv_yX12_interestBy wd_1487 (by decide) dX12_interest_97 at_928 jc_12 rfl rfl rfl (Nat.le_of_ble_eq_true rfl) (jroom (by decide)) rfl (m_interestBy (by decide) (by omega) (by omega) hC.rolaw (fun w97 => ?_) (fun w97 => ?_))
                                                        · dsimp only [jpush]
                                                          have hr1 := rChg_rng (loan := loan) (hv := 1 + (to - fr) / 2) hC.rlaw (by omega) (by omega)
                                                          have hr2 := rChg_rng (loan := loan) (hv := 1 + (to - fr) / 2) hC.rolaw (by omega) (by omega)
                                                          first
                                                           | (exfalso; omega)
                                                           | (skip
                                                              refine e_istore (lsn := [(5, _), (0, _), (1, _), (2, _), (3, _), (4, _)]) 102 dX12_interest_100 (by decide) rfl rfl ?_
                                                              refine e_iload 104 dX12_interest_102 rfl rfl ?_
                                                              refine e_iconst 105 dX12_interest_104 rfl ?_
                                                              refine e_icmp_ne 108 113 dX12_interest_105 (by omega) (by decide) (by decide) rfl (fun b105 => ?_) (fun b105 => ?_)
                                                              · first
                                                                 | (exfalso; omega)
                                                                 | (skip
                                                                    refine e_iload 115 dX12_interest_113 rfl rfl ?_
                                                                    refine e_iret dX12_interest_115 ?_
                                                                    first
                                                                      | (exact ⟨by omega, hI⟩)
                                                                      | (rw [hC.lrel.chg]
                                                                         exact ⟨by omega, hI⟩)
                                                                      | (rw [hC.lrelo.chg]
                                                                         exact ⟨by omega, hI⟩)
                                                                      | (exfalso
                                                                         have q1 := hC.lrel.top
                                                                         have q2 := hC.lrelo.top
                                                                         have q3 := fTop_0 (M := M)
                                                                         omega))
                                                              · first
                                                                 | (exfalso; omega)
                                                                 | (skip
                                                                    refine e_bipush 110 dX12_interest_108 (by decide) rfl ?_
                                                                    refine e_goto 115 dX12_interest_110 (by decide) ?_
                                                                    refine e_iret dX12_interest_115 ?_
                                                                    first
                                                                      | (exact ⟨by omega, hI⟩)
                                                                      | (rw [hC.lrel.chg]
                                                                         exact ⟨by omega, hI⟩)
                                                                      | (rw [hC.lrelo.chg]
                                                                         exact ⟨by omega, hI⟩)
                                                                      | (exfalso
                                                                         have q1 := hC.lrel.top
                                                                         have q2 := hC.lrelo.top
                                                                         have q3 := fTop_0 (M := M)
                                                                         omega)))
                                                        · dsimp only [jpush]
                                                          have hr1 := rChg_rng (loan := loan) (hv := 1 + (to - fr) / 2) hC.rlaw (by omega) (by omega)
                                                          have hr2 := rChg_rng (loan := loan) (hv := 1 + (to - fr) / 2) hC.rolaw (by omega) (by omega)
                                                          first
                                                           | (exfalso; omega)
                                                           | (skip
                                                              refine e_istore (lsn := [(5, _), (0, _), (1, _), (2, _), (3, _), (4, _)]) 102 dX12_interest_100 (by decide) rfl rfl ?_
                                                              refine e_iload 104 dX12_interest_102 rfl rfl ?_
                                                              refine e_iconst 105 dX12_interest_104 rfl ?_
                                                              refine e_icmp_ne 108 113 dX12_interest_105 (by decide) (by decide) (by decide) rfl (fun h => absurd h (by decide)) (fun _ => ?_)
                                                              refine e_bipush 110 dX12_interest_108 (by decide) rfl ?_
                                                              refine e_goto 115 dX12_interest_110 (by decide) ?_
                                                              refine e_iret dX12_interest_115 ?_
                                                              first
                                                                | (exact ⟨by omega, hI⟩)
                                                                | (rw [hC.lrel.chg]
                                                                   exact ⟨by omega, hI⟩)
                                                                | (rw [hC.lrelo.chg]
                                                                   exact ⟨by omega, hI⟩)
                                                                | (exfalso
                                                                   have q1 := hC.lrel.top
                                                                   have q2 := hC.lrelo.top
                                                                   have q3 := fTop_0 (M := M)
                                                                   omega)))
                                                  · first
                                                     | (exfalso; omega)
                                                     | (skip
                                                        refine e_iconst 84 dX12_interest_83 rfl ?_
                                                        refine e_goto 89 dX12_interest_84 (by decide) ?_
                                                        refine e_iload_n (i := 2) 90 dX12_interest_89 rfl rfl rfl ?_
                                                        refine e_iload 92 dX12_interest_90 rfl rfl ?_
                                                        refine e_iload_n (i := 3) 93 dX12_interest_92 rfl rfl rfl ?_
                                                        refine e_isub 94 dX12_interest_93 rfl ?_
                                                        refine e_callS 97 mt_yX12_halvesOf ms_yX12_halvesOf wd_1484 (by decide) dX12_interest_94 rfl rfl (Nat.le_of_ble_eq_true rfl) (jroom (by decide)) rfl (m_halvesOf (by omega) ?_)
                                                        dsimp only [jpush]
                                                        refine e_callV 100 mt_yX12_interestBy mv_yX12_interestBy wd_1487 (by decide) dX12_interest_97 at_928 jc_12 rfl rfl rfl (Nat.le_of_ble_eq_true rfl) (jroom (by decide)) rfl (m_interestBy (by decide) (by omega) (by omega) hC.rlaw (fun w97 => ?_) (fun w97 => ?_))
                                                        · dsimp only [jpush]
                                                          have hr1 := rChg_rng (loan := loan) (hv := 1 + (to - fr) / 2) hC.rlaw (by omega) (by omega)
                                                          have hr2 := rChg_rng (loan := loan) (hv := 1 + (to - fr) / 2) hC.rolaw (by omega) (by omega)
                                                          first
                                                           | (exfalso; omega)
                                                           | (skip
                                                              refine e_istore (lsn := [(5, _), (0, _), (1, _), (2, _), (3, _), (4, _)]) 102 dX12_interest_100 (by decide) rfl rfl ?_
                                                              refine e_iload 104 dX12_interest_102 rfl rfl ?_
                                                              refine e_iconst 105 dX12_interest_104 rfl ?_
                                                              refine e_icmp_ne 108 113 dX12_interest_105 (by omega) (by decide) (by decide) rfl (fun b105 => ?_) (fun b105 => ?_)
                                                              · first
                                                                 | (exfalso; omega)
                                                                 | (skip
                                                                    refine e_iload 115 dX12_interest_113 rfl rfl ?_
                                                                    refine e_iret dX12_interest_115 ?_
                                                                    first
                                                                      | (exact ⟨by omega, hI⟩)
                                                                      | (rw [hC.lrel.chg]
                                                                         exact ⟨by omega, hI⟩)
                                                                      | (rw [hC.lrelo.chg]
                                                                         exact ⟨by omega, hI⟩)
                                                                      | (exfalso
                                                                         have q1 := hC.lrel.top
                                                                         have q2 := hC.lrelo.top
                                                                         have q3 := fTop_0 (M := M)
                                                                         omega))
                                                              · first
                                                                 | (exfalso; omega)
                                                                 | (skip
                                                                    refine e_bipush 110 dX12_interest_108 (by decide) rfl ?_
                                                                    refine e_goto 115 dX12_interest_110 (by decide) ?_
                                                                    refine e_iret dX12_interest_115 ?_
                                                                    first
                                                                      | (exact ⟨by omega, hI⟩)
                                                                      | (rw [hC.lrel.chg]
                                                                         exact ⟨by omega, hI⟩)
                                                                      | (rw [hC.lrelo.chg]
                                                                         exact ⟨by omega, hI⟩)
                                                                      | (exfalso
                                                                         have q1 := hC.lrel.top
                                                                         have q2 := hC.lrelo.top
                                                                         have q3 := fTop_0 (M := M)
                                                                         omega)))
                                                        · dsimp only [jpush]
                                                          have hr1 := rChg_rng (loan := loan) (hv := 1 + (to - fr) / 2) hC.rlaw (by omega) (by omega)
                                                          have hr2 := rChg_rng (loan := loan) (hv := 1 + (to - fr) / 2) hC.rolaw (by omega) (by omega)
                                                          first
                                                           | (exfalso; omega)
                                                           | (skip
                                                              refine e_istore (lsn := [(5, _), (0, _), (1, _), (2, _), (3, _), (4, _)]) 102 dX12_interest_100 (by decide) rfl rfl ?_
                                                              refine e_iload 104 dX12_interest_102 rfl rfl ?_
                                                              refine e_iconst 105 dX12_interest_104 rfl ?_
                                                              refine e_icmp_ne 108 113 dX12_interest_105 (by decide) (by decide) (by decide) rfl (fun h => absurd h (by decide)) (fun _ => ?_)
                                                              refine e_bipush 110 dX12_interest_108 (by decide) rfl ?_
                                                              refine e_goto 115 dX12_interest_110 (by decide) ?_
                                                              refine e_iret dX12_interest_115 ?_
                                                              first
                                                                | (exact ⟨by omega, hI⟩)
                                                                | (rw [hC.lrel.chg]
                                                                   exact ⟨by omega, hI⟩)
                                                                | (rw [hC.lrelo.chg]
                                                                   exact ⟨by omega, hI⟩)
                                                                | (exfalso
                                                                   have q1 := hC.lrel.top
                                                                   have q2 := hC.lrelo.top
                                                                   have q3 := fTop_0 (M := M)
                                                                   omega))))
                                            · first
                                               | (exfalso; omega)
                                               | (skip
                                                  refine e_iconst 75 dX12_interest_74 rfl ?_
                                                  refine e_goto 100 dX12_interest_75 (by decide) ?_
                                                  refine e_istore (lsn := [(5, _), (0, _), (1, _), (2, _), (3, _), (4, _)]) 102 dX12_interest_100 (by decide) rfl rfl ?_
                                                  refine e_iload 104 dX12_interest_102 rfl rfl ?_
                                                  refine e_iconst 105 dX12_interest_104 rfl ?_
                                                  refine e_icmp_ne 108 113 dX12_interest_105 (by decide) (by decide) (by decide) rfl (fun h => absurd h (by decide)) (fun _ => ?_)
                                                  refine e_bipush 110 dX12_interest_108 (by decide) rfl ?_
                                                  refine e_goto 115 dX12_interest_110 (by decide) ?_
                                                  refine e_iret dX12_interest_115 ?_
                                                  first
                                                    | (exact ⟨by omega, hI⟩)
                                                    | (rw [hC.lrel.chg]
                                                       exact ⟨by omega, hI⟩)
                                                    | (rw [hC.lrelo.chg]
                                                       exact ⟨by omega, hI⟩)
                                                    | (exfalso
                                                       have q1 := hC.lrel.top
                                                       have q2 := hC.lrelo.top
                                                       have q3 := fTop_0 (M := M)
                                                       omega))))
                                · dsimp only [jpush]
                                  first
                                   | (exfalso; omega)
                                   | (skip
                                      refine e_if_ne 56 59 dX12_interest_53 (by decide) (by decide) rfl (fun h => absurd h (by decide)) (fun _ => ?_)
                                      refine e_bipush 58 dX12_interest_56 (by decide) rfl ?_
                                      refine e_iret dX12_interest_58 ?_
                                      first
                                        | (exact ⟨by omega, hI⟩)
                                        | (rw [hC.lrel.chg]
                                           exact ⟨by omega, hI⟩)
                                        | (rw [hC.lrelo.chg]
                                           exact ⟨by omega, hI⟩)
                                        | (exfalso
                                           have q1 := hC.lrel.top
                                           have q2 := hC.lrelo.top
                                           have q3 := fTop_0 (M := M)
                                           omega)))
                          · dsimp only [jpush]
                            first
                             | (exfalso; omega)
                             | (skip
                                refine e_if_eq 42 56 dX12_interest_39 (by decide) (by decide) rfl (fun _ => ?_) (fun h => absurd h (by decide))
                                refine e_bipush 58 dX12_interest_56 (by decide) rfl ?_
                                refine e_iret dX12_interest_58 ?_
                                first
                                  | (exact ⟨by omega, hI⟩)
                                  | (rw [hC.lrel.chg]
                                     exact ⟨by omega, hI⟩)
                                  | (rw [hC.lrelo.chg]
                                     exact ⟨by omega, hI⟩)
                                  | (exfalso
                                     have q1 := hC.lrel.top
                                     have q2 := hC.lrelo.top
                                     have q3 := fTop_0 (M := M)
                                     omega)))
                    · dsimp only [jpush]
                      first
                       | (exfalso; omega)
                       | (skip
                          refine e_if_eq 30 56 dX12_interest_27 (by decide) (by decide) rfl (fun _ => ?_) (fun h => absurd h (by decide))
                          refine e_bipush 58 dX12_interest_56 (by decide) rfl ?_
                          refine e_iret dX12_interest_58 ?_
                          first
                            | (exact ⟨by omega, hI⟩)
                            | (rw [hC.lrel.chg]
                               exact ⟨by omega, hI⟩)
                            | (rw [hC.lrelo.chg]
                               exact ⟨by omega, hI⟩)
                            | (exfalso
                               have q1 := hC.lrel.top
                               have q2 := hC.lrelo.top
                               have q3 := fTop_0 (M := M)
                               omega)))
              · dsimp only [jpush]
                first
                 | (exfalso; omega)
                 | (skip
                    refine e_if_ne 15 18 dX12_interest_12 (by decide) (by decide) rfl (fun h => absurd h (by decide)) (fun _ => ?_)
                    refine e_bipush 17 dX12_interest_15 (by decide) rfl ?_
                    refine e_iret dX12_interest_17 ?_
                    first
                      | (exact ⟨by omega, hI⟩)
                      | (rw [hC.lrel.chg]
                         exact ⟨by omega, hI⟩)
                      | (rw [hC.lrelo.chg]
                         exact ⟨by omega, hI⟩)
                      | (exfalso
                         have q1 := hC.lrel.top
                         have q2 := hC.lrelo.top
                         have q3 := fTop_0 (M := M)
                         omega))
          · skip
            refine e_aload_n (i := 0) 50 dX11_interest_49 rfl rfl rfl ?_
            refine e_getr (j := 0) 53 fl_11_10 dX11_interest_50 at_0 rfl rfl tp_0_0 rfl ?_
            refine e_getr (j := 0) 56 fl_11_73 dX11_interest_53 at_1 rfl rfl tp_1_0 rfl ?_
            refine e_goto 66 dX11_interest_56 (by decide) ?_
            refine e_astore (lsn := [(5, _), (0, _), (1, _), (2, _), (3, _), (4, _)]) 68 dX11_interest_66 (by decide) rfl rfl ?_
            refine e_aload 70 dX11_interest_68 rfl rfl ?_
            refine e_iload_n (i := 2) 71 dX11_interest_70 rfl rfl rfl ?_
            refine e_callV 74 mt_yX1_lends mv_yX1_lends wd_730 (by decide) dX11_interest_71 at_2 jc_1 rfl rfl rfl (Nat.le_of_ble_eq_true rfl) (jroom (by decide)) rfl (c_lends (by omega) lw_2 hC.lrel.ok (fun w71 => ?_) (fun w71 => ?_))
            · dsimp only [jpush]
              refine e_if_ne 77 80 dX11_interest_74 (by decide) (by decide) rfl (fun _ => ?_) (fun h => absurd h (by decide))
              refine e_aload 82 dX11_interest_80 rfl rfl ?_
              refine e_iload_n (i := 2) 83 dX11_interest_82 rfl rfl rfl ?_
              refine e_iload_n (i := 3) 84 dX11_interest_83 rfl rfl rfl ?_
              refine e_iload 86 dX11_interest_84 rfl rfl ?_
              refine e_callS 89 mt_yX1_halves ms_yX1_halves wd_735 (by decide) dX11_interest_86 rfl rfl (Nat.le_of_ble_eq_true rfl) (jroom (by decide)) rfl (c_halves (by omega) ?_)
              dsimp only [jpush]
              refine e_callV 92 mt_yX1_charge mv_yX1_charge wd_738 (by decide) dX11_interest_89 at_2 jc_1 rfl rfl rfl (Nat.le_of_ble_eq_true rfl) (jroom (by decide)) rfl (c_charge (by omega) (by omega) lw_2 hC.lrel.ok ?_)
              dsimp only [jpush]
              refine e_iret dX11_interest_92 ?_
              refine jCt_of mt_yX12_interest (Nat.le_of_ble_eq_true rfl) (fun X2 => ?_)
              refine e_aload_n (i := 0) 1 dX12_interest_0 rfl rfl rfl ?_
              refine e_iconst 2 dX12_interest_1 rfl ?_
              refine e_put0 (j := 0) 5 fl_12_1 dX12_interest_2 at_928 rfl rfl rfl (by decide) hI.1 rfl ?_
              refine e_iload_n (i := 1) 6 dX12_interest_5 rfl rfl rfl ?_
              refine e_i2l 7 dX12_interest_6 (by omega) rfl ?_
              refine e_lconst0 8 dX12_interest_7 rfl ?_
              refine e_lconst1 9 dX12_interest_8 rfl ?_
              refine e_callS 12 mt_yX12_within ms_yX12_within wd_1390 (by decide) dX12_interest_9 rfl rfl (Nat.le_of_ble_eq_true rfl) (jroom (by decide)) rfl (m_within (by omega) (by omega) (by omega) (fun w9 => ?_) (fun w9 => ?_))
              · dsimp only [jpush]
                first
                 | (exfalso; omega)
                 | (skip
                    refine e_if_ne 15 18 dX12_interest_12 (by decide) (by decide) rfl (fun _ => ?_) (fun h => absurd h (by decide))
                    refine e_iload_n (i := 2) 19 dX12_interest_18 rfl rfl rfl ?_
                    refine e_i2l 20 dX12_interest_19 (by omega) rfl ?_
                    refine e_lconst1 21 dX12_interest_20 rfl ?_
                    refine e_ldc2 (z := (999)) 24 (ix := 198) wd_1482 (by decide) dX12_interest_21 rfl ?_
                    refine e_callS 27 mt_yX12_within ms_yX12_within wd_1390 (by decide) dX12_interest_24 rfl rfl (Nat.le_of_ble_eq_true rfl) (jroom (by decide)) rfl (m_within (by omega) (by omega) (by omega) (fun w24 => ?_) (fun w24 => ?_))
                    · dsimp only [jpush]
                      first
                       | (exfalso; omega)
                       | (skip
                          refine e_if_eq 30 56 dX12_interest_27 (by decide) (by decide) rfl (fun h => absurd h (by decide)) (fun _ => ?_)
                          refine e_iload_n (i := 3) 31 dX12_interest_30 rfl rfl rfl ?_
                          refine e_i2l 32 dX12_interest_31 (by omega) rfl ?_
                          refine e_lconst0 33 dX12_interest_32 rfl ?_
                          refine e_ldc2 (z := (300)) 36 (ix := 200) wd_1483 (by decide) dX12_interest_33 rfl ?_
                          refine e_callS 39 mt_yX12_within ms_yX12_within wd_1390 (by decide) dX12_interest_36 rfl rfl (Nat.le_of_ble_eq_true rfl) (jroom (by decide)) rfl (m_within (by omega) (by omega) (by omega) (fun w36 => ?_) (fun w36 => ?_))
                          · dsimp only [jpush]
                            first
                             | (exfalso; omega)
                             | (skip
                                refine e_if_eq 42 56 dX12_interest_39 (by decide) (by decide) rfl (fun h => absurd h (by decide)) (fun _ => ?_)
                                refine e_iload 44 dX12_interest_42 rfl rfl ?_
                                refine e_i2l 45 dX12_interest_44 (by omega) rfl ?_
                                refine e_iload_n (i := 3) 46 dX12_interest_45 rfl rfl rfl ?_
                                refine e_i2l 47 dX12_interest_46 (by omega) rfl ?_
                                refine e_ldc2 (z := (300)) 50 (ix := 200) wd_1483 (by decide) dX12_interest_47 rfl ?_
                                refine e_callS 53 mt_yX12_within ms_yX12_within wd_1390 (by decide) dX12_interest_50 rfl rfl (Nat.le_of_ble_eq_true rfl) (jroom (by decide)) rfl (m_within (by omega) (by omega) (by omega) (fun w50 => ?_) (fun w50 => ?_))
                                · dsimp only [jpush]
                                  first
                                   | (exfalso; omega)
                                   | (skip
                                      refine e_if_ne 56 59 dX12_interest_53 (by decide) (by decide) rfl (fun _ => ?_) (fun h => absurd h (by decide))
                                      refine e_iload_n (i := 1) 60 dX12_interest_59 rfl rfl rfl ?_
                                      refine e_iconst 61 dX12_interest_60 rfl ?_
                                      refine e_icmp_ne 64 78 dX12_interest_61 (by omega) (by decide) (by decide) rfl (fun b61 => ?_) (fun b61 => ?_)
                                      · first
                                         | (exfalso; omega)
                                         | (skip
                                            refine e_aload_n (i := 0) 79 dX12_interest_78 rfl rfl rfl ?_
                                            refine e_iload_n (i := 1) 80 dX12_interest_79 rfl rfl rfl ?_
                                            refine e_if_ne 83 87 dX12_interest_80 (by omega) (by decide) rfl (fun b80 => ?_) (fun b80 => ?_)
                                            · first
                                               | (exfalso; omega)
                                               | (skip
                                                  refine e_bipush 89 dX12_interest_87 (by decide) rfl ?_
                                                  refine e_iload_n (i := 2) 90 dX12_interest_89 rfl rfl rfl ?_
                                                  refine e_iload 92 dX12_interest_90 rfl rfl ?_
                                                  refine e_iload_n (i := 3) 93 dX12_interest_92 rfl rfl rfl ?_
                                                  refine e_isub 94 dX12_interest_93 rfl ?_
                                                  refine e_callS 97 mt_yX12_halvesOf ms_yX12_halvesOf wd_1484 (by decide) dX12_interest_94 rfl rfl (Nat.le_of_ble_eq_true rfl) (jroom (by decide)) rfl (m_halvesOf (by omega) ?_)
                                                  dsimp only [jpush]
                                                  refine e_callV 100 mt_yX12_interestBy mv_yX12_interestBy wd_1487 (by decide) dX12_interest_97 at_928 jc_12 rfl rfl rfl (Nat.le_of_ble_eq_true rfl) (jroom (by decide)) rfl (m_interestBy (by decide) (by omega) (by omega) hC.rolaw (fun w97 => ?_) (fun w97 => ?_))
                                                  · dsimp only [jpush]
                                                    have hr1 := rChg_rng (loan := loan) (hv := 1 + (to - fr) / 2) hC.rlaw (by omega) (by omega)
                                                    have hr2 := rChg_rng (loan := loan) (hv := 1 + (to - fr) / 2) hC.rolaw (by omega) (by omega)
                                                    first
                                                     | (exfalso; omega)
                                                     | (skip
                                                        refine e_istore (lsn := [(5, _), (0, _), (1, _), (2, _), (3, _), (4, _)]) 102 dX12_interest_100 (by decide) rfl rfl ?_
                                                        refine e_iload 104 dX12_interest_102 rfl rfl ?_
                                                        refine e_iconst 105 dX12_interest_104 rfl ?_
                                                        refine e_icmp_ne 108 113 dX12_interest_105 (by omega) (by decide) (by decide) rfl (fun b105 => ?_) (fun b105 => ?_)
                                                        · first
                                                           | (exfalso; omega)
                                                           | (skip
                                                              refine e_iload 115 dX12_interest_113 rfl rfl ?_
                                                              refine e_iret dX12_interest_115 ?_
                                                              first
                                                                | (exact ⟨by omega, hI⟩)
                                                                | (rw [hC.lrel.chg]
                                                                   exact ⟨by omega, hI⟩)
                                                                | (rw [hC.lrelo.chg]
                                                                   exact ⟨by omega, hI⟩)
                                                                | (exfalso
                                                                   have q1 := hC.lrel.top
                                                                   have q2 := hC.lrelo.top
                                                                   have q3 := fTop_0 (M := M)
                                                                   omega))
                                                        · first
                                                           | (exfalso; omega)
                                                           | (skip
                                                              refine e_bipush 110 dX12_interest_108 (by decide) rfl ?_
                                                              refine e_goto 115 dX12_interest_110 (by decide) ?_
                                                              refine e_iret dX12_interest_115 ?_
                                                              first
                                                                | (exact ⟨by omega, hI⟩)
                                                                | (rw [hC.lrel.chg]
                                                                   exact ⟨by omega, hI⟩)
                                                                | (rw [hC.lrelo.chg]
                                                                   exact ⟨by omega, hI⟩)
                                                                | (exfalso
                                                                   have q1 := hC.lrel.top
                                                                   have q2 := hC.lrelo.top
                                                                   have q3 := fTop_0 (M := M)
                                                                   omega)))
                                                  · dsimp only [jpush]
                                                    have hr1 := rChg_rng (loan := loan) (hv := 1 + (to - fr) / 2) hC.rlaw (by omega) (by omega)
                                                    have hr2 := rChg_rng (loan := loan) (hv := 1 + (to - fr) / 2) hC.rolaw (by omega) (by omega)
                                                    first
                                                     | (exfalso; omega)
                                                     | (skip
                                                        refine e_istore (lsn := [(5, _), (0, _), (1, _), (2, _), (3, _), (4, _)]) 102 dX12_interest_100 (by decide) rfl rfl ?_
                                                        refine e_iload 104 dX12_interest_102 rfl rfl ?_
                                                        refine e_iconst 105 dX12_interest_104 rfl ?_
                                                        refine e_icmp_ne 108 113 dX12_interest_105 (by decide) (by decide) (by decide) rfl (fun h => absurd h (by decide)) (fun _ => ?_)
                                                        refine e_bipush 110 dX12_interest_108 (by decide) rfl ?_
                                                        refine e_goto 115 dX12_interest_110 (by decide) ?_
                                                        refine e_iret dX12_interest_115 ?_
                                                        first
                                                          | (exact ⟨by omega, hI⟩)
                                                          | (rw [hC.lrel.chg]
                                                             exact ⟨by omega, hI⟩)
                                                          | (rw [hC.lrelo.chg]
                                                             exact ⟨by omega, hI⟩)
                                                          | (exfalso
                                                             have q1 := hC.lrel.top
                                                             have q2 := hC.lrelo.top
                                                             have q3 := fTop_0 (M := M)
                                                             omega)))
                                            · first
                                               | (exfalso; omega)
                                               | (skip
                                                  refine e_iconst 84 dX12_interest_83 rfl ?_
                                                  refine e_goto 89 dX12_interest_84 (by decide) ?_
                                                  refine e_iload_n (i := 2) 90 dX12_interest_89 rfl rfl rfl ?_
                                                  refine e_iload 92 dX12_interest_90 rfl rfl ?_
                                                  refine e_iload_n (i := 3) 93 dX12_interest_92 rfl rfl rfl ?_
                                                  refine e_isub 94 dX12_interest_93 rfl ?_
                                                  refine e_callS 97 mt_yX12_halvesOf ms_yX12_halvesOf wd_1484 (by decide) dX12_interest_94 rfl rfl (Nat.le_of_ble_eq_true rfl) (jroom (by decide)) rfl (m_halvesOf (by omega) ?_)
                                                  dsimp only [jpush]
                                                  refine e_callV 100 mt_yX12_interestBy mv_yX12_interestBy wd_1487 (by decide) dX12_interest_97 at_928 jc_12 rfl rfl rfl (Nat.le_of_ble_eq_true rfl) (jroom (by decide)) rfl (m_interestBy (by decide) (by omega) (by omega) hC.rlaw (fun w97 => ?_) (fun w97 => ?_))
                                                  · dsimp only [jpush]
                                                    have hr1 := rChg_rng (loan := loan) (hv := 1 + (to - fr) / 2) hC.rlaw (by omega) (by omega)
                                                    have hr2 := rChg_rng (loan := loan) (hv := 1 + (to - fr) / 2) hC.rolaw (by omega) (by omega)
                                                    first
                                                     | (exfalso; omega)
                                                     | (skip
                                                        refine e_istore (lsn := [(5, _), (0, _), (1, _), (2, _), (3, _), (4, _)]) 102 dX12_interest_100 (by decide) rfl rfl ?_
                                                        refine e_iload 104 dX12_interest_102 rfl rfl ?_
                                                        refine e_iconst 105 dX12_interest_104 rfl ?_
                                                        refine e_icmp_ne 108 113 dX12_interest_105 (by omega) (by decide) (by decide) rfl (fun b105 => ?_) (fun b105 => ?_)
                                                        · first
                                                           | (exfalso; omega)
                                                           | (skip
                                                              refine e_iload 115 dX12_interest_113 rfl rfl ?_
                                                              refine e_iret dX12_interest_115 ?_
                                                              first
                                                                | (exact ⟨by omega, hI⟩)
                                                                | (rw [hC.lrel.chg]
                                                                   exact ⟨by omega, hI⟩)
                                                                | (rw [hC.lrelo.chg]
                                                                   exact ⟨by omega, hI⟩)
                                                                | (exfalso
                                                                   have q1 := hC.lrel.top
                                                                   have q2 := hC.lrelo.top
                                                                   have q3 := fTop_0 (M := M)
                                                                   omega))
                                                        · first
                                                           | (exfalso; omega)
                                                           | (skip
                                                              refine e_bipush 110 dX12_interest_108 (by decide) rfl ?_
                                                              refine e_goto 115 dX12_interest_110 (by decide) ?_
                                                              refine e_iret dX12_interest_115 ?_
                                                              first
                                                                | (exact ⟨by omega, hI⟩)
                                                                | (rw [hC.lrel.chg]
                                                                   exact ⟨by omega, hI⟩)
                                                                | (rw [hC.lrelo.chg]
                                                                   exact ⟨by omega, hI⟩)
                                                                | (exfalso
                                                                   have q1 := hC.lrel.top
                                                                   have q2 := hC.lrelo.top
                                                                   have q3 := fTop_0 (M := M)
                                                                   omega)))
                                                  · dsimp only [jpush]
                                                    have hr1 := rChg_rng (loan := loan) (hv := 1 + (to - fr) / 2) hC.rlaw (by omega) (by omega)
                                                    have hr2 := rChg_rng (loan := loan) (hv := 1 + (to - fr) / 2) hC.rolaw (by omega) (by omega)
                                                    first
                                                     | (exfalso; omega)
                                                     | (skip
                                                        refine e_istore (lsn := [(5, _), (0, _), (1, _), (2, _), (3, _), (4, _)]) 102 dX12_interest_100 (by decide) rfl rfl ?_
                                                        refine e_iload 104 dX12_interest_102 rfl rfl ?_
                                                        refine e_iconst 105 dX12_interest_104 rfl ?_
                                                        refine e_icmp_ne 108 113 dX12_interest_105 (by decide) (by decide) (by decide) rfl (fun h => absurd h (by decide)) (fun _ => ?_)
                                                        refine e_bipush 110 dX12_interest_108 (by decide) rfl ?_
                                                        refine e_goto 115 dX12_interest_110 (by decide) ?_
                                                        refine e_iret dX12_interest_115 ?_
                                                        first
                                                          | (exact ⟨by omega, hI⟩)
                                                          | (rw [hC.lrel.chg]
                                                             exact ⟨by omega, hI⟩)
                                                          | (rw [hC.lrelo.chg]
                                                             exact ⟨by omega, hI⟩)
                                                          | (exfalso
                                                             have q1 := hC.lrel.top
                                                             have q2 := hC.lrelo.top
                                                             have q3 := fTop_0 (M := M)
                                                             omega))))
                                      · first
                                         | (exfalso; omega)
                                         | (skip
                                            refine e_aload_n (i := 0) 65 dX12_interest_64 rfl rfl rfl ?_
                                            refine e_getr (j := 1) 68 fl_12_13 dX12_interest_65 at_928 rfl rfl tp_928_1 rfl ?_
                                            refine e_bipush 70 dX12_interest_68 (by decide) rfl ?_
                                            refine e_iald 71 dX12_interest_70 ar_929 (by decide) (by decide) rfl (fun r70 => ?_)
                                            refine e_if_ne 74 78 dX12_interest_71 (by omega) (by decide) rfl (fun b71 => ?_) (fun b71 => ?_)
                                            · first
                                               | (exfalso; omega)
                                               | (skip
                                                  refine e_aload_n (i := 0) 79 dX12_interest_78 rfl rfl rfl ?_
                                                  refine e_iload_n (i := 1) 80 dX12_interest_79 rfl rfl rfl ?_
                                                  refine e_if_ne 83 87 dX12_interest_80 (by omega) (by decide) rfl (fun b80 => ?_) (fun b80 => ?_)
                                                  · first
                                                     | (exfalso; omega)
                                                     | (skip
                                                        refine e_bipush 89 dX12_interest_87 (by decide) rfl ?_
                                                        refine e_iload_n (i := 2) 90 dX12_interest_89 rfl rfl rfl ?_
                                                        refine e_iload 92 dX12_interest_90 rfl rfl ?_
                                                        refine e_iload_n (i := 3) 93 dX12_interest_92 rfl rfl rfl ?_
                                                        refine e_isub 94 dX12_interest_93 rfl ?_
                                                        refine e_callS 97 mt_yX12_halvesOf ms_yX12_halvesOf wd_1484 (by decide) dX12_interest_94 rfl rfl (Nat.le_of_ble_eq_true rfl) (jroom (by decide)) rfl (m_halvesOf (by omega) ?_)
                                                        dsimp only [jpush]
                                                        refine e_callV 100 mt_yX12_interestBy mv_yX12_interestBy wd_1487 (by decide) dX12_interest_97 at_928 jc_12 rfl rfl rfl (Nat.le_of_ble_eq_true rfl) (jroom (by decide)) rfl (m_interestBy (by decide) (by omega) (by omega) hC.rolaw (fun w97 => ?_) (fun w97 => ?_))
                                                        · dsimp only [jpush]
                                                          have hr1 := rChg_rng (loan := loan) (hv := 1 + (to - fr) / 2) hC.rlaw (by omega) (by omega)
                                                          have hr2 := rChg_rng (loan := loan) (hv := 1 + (to - fr) / 2) hC.rolaw (by omega) (by omega)
                                                          first
                                                           | (exfalso; omega)
                                                           | (skip
                                                              refine e_istore (lsn := [(5, _), (0, _), (1, _), (2, _), (3, _), (4, _)]) 102 dX12_interest_100 (by decide) rfl rfl ?_
                                                              refine e_iload 104 dX12_interest_102 rfl rfl ?_
                                                              refine e_iconst 105 dX12_interest_104 rfl ?_
                                                              refine e_icmp_ne 108 113 dX12_interest_105 (by omega) (by decide) (by decide) rfl (fun b105 => ?_) (fun b105 => ?_)
                                                              · first
                                                                 | (exfalso; omega)
                                                                 | (skip
                                                                    refine e_iload 115 dX12_interest_113 rfl rfl ?_
                                                                    refine e_iret dX12_interest_115 ?_
                                                                    first
                                                                      | (exact ⟨by omega, hI⟩)
                                                                      | (rw [hC.lrel.chg]
                                                                         exact ⟨by omega, hI⟩)
                                                                      | (rw [hC.lrelo.chg]
                                                                         exact ⟨by omega, hI⟩)
                                                                      | (exfalso
                                                                         have q1 := hC.lrel.top
                                                                         have q2 := hC.lrelo.top
                                                                         have q3 := fTop_0 (M := M)
                                                                         omega))
                                                              · first
                                                                 | (exfalso; omega)
                                                                 | (skip
                                                                    refine e_bipush 110 dX12_interest_108 (by decide) rfl ?_
                                                                    refine e_goto 115 dX12_interest_110 (by decide) ?_
                                                                    refine e_iret dX12_interest_115 ?_
                                                                    first
                                                                      | (exact ⟨by omega, hI⟩)
                                                                      | (rw [hC.lrel.chg]
                                                                         exact ⟨by omega, hI⟩)
                                                                      | (rw [hC.lrelo.chg]
                                                                         exact ⟨by omega, hI⟩)
                                                                      | (exfalso
                                                                         have q1 := hC.lrel.top
                                                                         have q2 := hC.lrelo.top
                                                                         have q3 := fTop_0 (M := M)
                                                                         omega)))
                                                        · dsimp only [jpush]
                                                          have hr1 := rChg_rng (loan := loan) (hv := 1 + (to - fr) / 2) hC.rlaw (by omega) (by omega)
                                                          have hr2 := rChg_rng (loan := loan) (hv := 1 + (to - fr) / 2) hC.rolaw (by omega) (by omega)
                                                          first
                                                           | (exfalso; omega)
                                                           | (skip
                                                              refine e_istore (lsn := [(5, _), (0, _), (1, _), (2, _), (3, _), (4, _)]) 102 dX12_interest_100 (by decide) rfl rfl ?_
                                                              refine e_iload 104 dX12_interest_102 rfl rfl ?_
                                                              refine e_iconst 105 dX12_interest_104 rfl ?_
                                                              refine e_icmp_ne 108 113 dX12_interest_105 (by decide) (by decide) (by decide) rfl (fun h => absurd h (by decide)) (fun _ => ?_)
                                                              refine e_bipush 110 dX12_interest_108 (by decide) rfl ?_
                                                              refine e_goto 115 dX12_interest_110 (by decide) ?_
                                                              refine e_iret dX12_interest_115 ?_
                                                              first
                                                                | (exact ⟨by omega, hI⟩)
                                                                | (rw [hC.lrel.chg]
                                                                   exact ⟨by omega, hI⟩)
                                                                | (rw [hC.lrelo.chg]
                                                                   exact ⟨by omega, hI⟩)
                                                                | (exfalso
                                                                   have q1 := hC.lrel.top
                                                                   have q2 := hC.lrelo.top
                                                                   have q3 := fTop_0 (M := M)
                                                                   omega)))
                                                  · first
                                                     | (exfalso; omega)
                                                     | (skip
                                                        refine e_iconst 84 dX12_interest_83 rfl ?_
                                                        refine e_goto 89 dX12_interest_84 (by decide) ?_
                                                        refine e_iload_n (i := 2) 90 dX12_interest_89 rfl rfl rfl ?_
                                                        refine e_iload 92 dX12_interest_90 rfl rfl ?_
                                                        refine e_iload_n (i := 3) 93 dX12_interest_92 rfl rfl rfl ?_
                                                        refine e_isub 94 dX12_interest_93 rfl ?_
                                                        refine e_callS 97 mt_yX12_halvesOf ms_yX12_halvesOf wd_1484 (by decide) dX12_interest_94 rfl rfl (Nat.le_of_ble_eq_true rfl) (jroom (by decide)) rfl (m_halvesOf (by omega) ?_)
                                                        dsimp only [jpush]
                                                        refine e_callV 100 mt_yX12_interestBy mv_yX12_interestBy wd_1487 (by decide) dX12_interest_97 at_928 jc_12 rfl rfl rfl (Nat.le_of_ble_eq_true rfl) (jroom (by decide)) rfl (m_interestBy (by decide) (by omega) (by omega) hC.rlaw (fun w97 => ?_) (fun w97 => ?_))
                                                        · dsimp only [jpush]
                                                          have hr1 := rChg_rng (loan := loan) (hv := 1 + (to - fr) / 2) hC.rlaw (by omega) (by omega)
                                                          have hr2 := rChg_rng (loan := loan) (hv := 1 + (to - fr) / 2) hC.rolaw (by omega) (by omega)
                                                          first
                                                           | (exfalso; omega)
                                                           | (skip
                                                              refine e_istore (lsn := [(5, _), (0, _), (1, _), (2, _), (3, _), (4, _)]) 102 dX12_interest_100 (by decide) rfl rfl ?_
                                                              refine e_iload 104 dX12_interest_102 rfl rfl ?_
                                                              refine e_iconst 105 dX12_interest_104 rfl ?_
                                                              refine e_icmp_ne 108 113 dX12_interest_105 (by omega) (by decide) (by decide) rfl (fun b105 => ?_) (fun b105 => ?_)
                                                              · first
                                                                 | (exfalso; omega)
                                                                 | (skip
                                                                    refine e_iload 115 dX12_interest_113 rfl rfl ?_
                                                                    refine e_iret dX12_interest_115 ?_
                                                                    first
                                                                      | (exact ⟨by omega, hI⟩)
                                                                      | (rw [hC.lrel.chg]
                                                                         exact ⟨by omega, hI⟩)
                                                                      | (rw [hC.lrelo.chg]
                                                                         exact ⟨by omega, hI⟩)
                                                                      | (exfalso
                                                                         have q1 := hC.lrel.top
                                                                         have q2 := hC.lrelo.top
                                                                         have q3 := fTop_0 (M := M)
                                                                         omega))
                                                              · first
                                                                 | (exfalso; omega)
                                                                 | (skip
                                                                    refine e_bipush 110 dX12_interest_108 (by decide) rfl ?_
                                                                    refine e_goto 115 dX12_interest_110 (by decide) ?_
                                                                    refine e_iret dX12_interest_115 ?_
                                                                    first
                                                                      | (exact ⟨by omega, hI⟩)
                                                                      | (rw [hC.lrel.chg]
                                                                         exact ⟨by omega, hI⟩)
                                                                      | (rw [hC.lrelo.chg]
                                                                         exact ⟨by omega, hI⟩)
                                                                      | (exfalso
                                                                         have q1 := hC.lrel.top
                                                                         have q2 := hC.lrelo.top
                                                                         have q3 := fTop_0 (M := M)
                                                                         omega)))
                                                        · dsimp only [jpush]
                                                          have hr1 := rChg_rng (loan := loan) (hv := 1 + (to - fr) / 2) hC.rlaw (by omega) (by omega)
                                                          have hr2 := rChg_rng (loan := loan) (hv := 1 + (to - fr) / 2) hC.rolaw (by omega) (by omega)
                                                          first
                                                           | (exfalso; omega)
                                                           | (skip
                                                              refine e_istore (lsn := [(5, _), (0, _), (1, _), (2, _), (3, _), (4, _)]) 102 dX12_interest_100 (by decide) rfl rfl ?_
                                                              refine e_iload 104 dX12_interest_102 rfl rfl ?_
                                                              refine e_iconst 105 dX12_interest_104 rfl ?_
                                                              refine e_icmp_ne 108 113 dX12_interest_105 (by decide) (by decide) (by decide) rfl (fun h => absurd h (by decide)) (fun _ => ?_)
                                                              refine e_bipush 110 dX12_interest_108 (by decide) rfl ?_
                                                              refine e_goto 115 dX12_interest_110 (by decide) ?_
                                                              refine e_iret dX12_interest_115 ?_
                                                              first
                                                                | (exact ⟨by omega, hI⟩)
                                                                | (rw [hC.lrel.chg]
                                                                   exact ⟨by omega, hI⟩)
                                                                | (rw [hC.lrelo.chg]
                                                                   exact ⟨by omega, hI⟩)
                                                                | (exfalso
                                                                   have q1 := hC.lrel.top
                                                                   have q2 := hC.lrelo.top
                                                                   have q3 := fTop_0 (M := M)
                                                                   omega))))
                                            · first
                                               | (exfalso; omega)
                                               | (skip
                                                  refine e_iconst 75 dX12_interest_74 rfl ?_
                                                  refine e_goto 100 dX12_interest_75 (by decide) ?_
                                                  refine e_istore (lsn := [(5, _), (0, _), (1, _), (2, _), (3, _), (4, _)]) 102 dX12_interest_100 (by decide) rfl rfl ?_
                                                  refine e_iload 104 dX12_interest_102 rfl rfl ?_
                                                  refine e_iconst 105 dX12_interest_104 rfl ?_
                                                  refine e_icmp_ne 108 113 dX12_interest_105 (by decide) (by decide) (by decide) rfl (fun h => absurd h (by decide)) (fun _ => ?_)
                                                  refine e_bipush 110 dX12_interest_108 (by decide) rfl ?_
                                                  refine e_goto 115 dX12_interest_110 (by decide) ?_
                                                  refine e_iret dX12_interest_115 ?_
                                                  first
                                                    | (exact ⟨by omega, hI⟩)
                                                    | (rw [hC.lrel.chg]
                                                       exact ⟨by omega, hI⟩)
                                                    | (rw [hC.lrelo.chg]
                                                       exact ⟨by omega, hI⟩)
                                                    | (exfalso
                                                       have q1 := hC.lrel.top
                                                       have q2 := hC.lrelo.top
                                                       have q3 := fTop_0 (M := M)
                                                       omega))))
                                · dsimp only [jpush]
                                  first
                                   | (exfalso; omega)
                                   | (skip
                                      refine e_if_ne 56 59 dX12_interest_53 (by decide) (by decide) rfl (fun h => absurd h (by decide)) (fun _ => ?_)
                                      refine e_bipush 58 dX12_interest_56 (by decide) rfl ?_
                                      refine e_iret dX12_interest_58 ?_
                                      first
                                        | (exact ⟨by omega, hI⟩)
                                        | (rw [hC.lrel.chg]
                                           exact ⟨by omega, hI⟩)
                                        | (rw [hC.lrelo.chg]
                                           exact ⟨by omega, hI⟩)
                                        | (exfalso
                                           have q1 := hC.lrel.top
                                           have q2 := hC.lrelo.top
                                           have q3 := fTop_0 (M := M)
                                           omega)))
                          · dsimp only [jpush]
                            first
                             | (exfalso; omega)
                             | (skip
                                refine e_if_eq 42 56 dX12_interest_39 (by decide) (by decide) rfl (fun _ => ?_) (fun h => absurd h (by decide))
                                refine e_bipush 58 dX12_interest_56 (by decide) rfl ?_
                                refine e_iret dX12_interest_58 ?_
                                first
                                  | (exact ⟨by omega, hI⟩)
                                  | (rw [hC.lrel.chg]
                                     exact ⟨by omega, hI⟩)
                                  | (rw [hC.lrelo.chg]
                                     exact ⟨by omega, hI⟩)
                                  | (exfalso
                                     have q1 := hC.lrel.top
                                     have q2 := hC.lrelo.top
                                     have q3 := fTop_0 (M := M)
                                     omega)))
                    · dsimp only [jpush]
                      first
                       | (exfalso; omega)
                       | (skip
                          refine e_if_eq 30 56 dX12_interest_27 (by decide) (by decide) rfl (fun _ => ?_) (fun h => absurd h (by decide))
                          refine e_bipush 58 dX12_interest_56 (by decide) rfl ?_
                          refine e_iret dX12_interest_58 ?_
                          first
                            | (exact ⟨by omega, hI⟩)
                            | (rw [hC.lrel.chg]
                               exact ⟨by omega, hI⟩)
                            | (rw [hC.lrelo.chg]
                               exact ⟨by omega, hI⟩)
                            | (exfalso
                               have q1 := hC.lrel.top
                               have q2 := hC.lrelo.top
                               have q3 := fTop_0 (M := M)
                               omega)))
              · dsimp only [jpush]
                first
                 | (exfalso; omega)
                 | (skip
                    refine e_if_ne 15 18 dX12_interest_12 (by decide) (by decide) rfl (fun h => absurd h (by decide)) (fun _ => ?_)
                    refine e_bipush 17 dX12_interest_15 (by decide) rfl ?_
                    refine e_iret dX12_interest_17 ?_
                    first
                      | (exact ⟨by omega, hI⟩)
                      | (rw [hC.lrel.chg]
                         exact ⟨by omega, hI⟩)
                      | (rw [hC.lrelo.chg]
                         exact ⟨by omega, hI⟩)
                      | (exfalso
                         have q1 := hC.lrel.top
                         have q2 := hC.lrelo.top
                         have q3 := fTop_0 (M := M)
                         omega))
            · dsimp only [jpush]
              refine e_if_ne 77 80 dX11_interest_74 (by decide) (by decide) rfl (fun h => absurd h (by decide)) (fun _ => ?_)
              refine e_bipush 79 dX11_interest_77 (by decide) rfl ?_
              refine e_iret dX11_interest_79 ?_
              refine jCt_of mt_yX12_interest (Nat.le_of_ble_eq_true rfl) (fun X2 => ?_)
              refine e_aload_n (i := 0) 1 dX12_interest_0 rfl rfl rfl ?_
              refine e_iconst 2 dX12_interest_1 rfl ?_
              refine e_put0 (j := 0) 5 fl_12_1 dX12_interest_2 at_928 rfl rfl rfl (by decide) hI.1 rfl ?_
              refine e_iload_n (i := 1) 6 dX12_interest_5 rfl rfl rfl ?_
              refine e_i2l 7 dX12_interest_6 (by omega) rfl ?_
              refine e_lconst0 8 dX12_interest_7 rfl ?_
              refine e_lconst1 9 dX12_interest_8 rfl ?_
              refine e_callS 12 mt_yX12_within ms_yX12_within wd_1390 (by decide) dX12_interest_9 rfl rfl (Nat.le_of_ble_eq_true rfl) (jroom (by decide)) rfl (m_within (by omega) (by omega) (by omega) (fun w9 => ?_) (fun w9 => ?_))
              · dsimp only [jpush]
                first
                 | (exfalso; omega)
                 | (skip
                    refine e_if_ne 15 18 dX12_interest_12 (by decide) (by decide) rfl (fun _ => ?_) (fun h => absurd h (by decide))
                    refine e_iload_n (i := 2) 19 dX12_interest_18 rfl rfl rfl ?_
                    refine e_i2l 20 dX12_interest_19 (by omega) rfl ?_
                    refine e_lconst1 21 dX12_interest_20 rfl ?_
                    refine e_ldc2 (z := (999)) 24 (ix := 198) wd_1482 (by decide) dX12_interest_21 rfl ?_
                    refine e_callS 27 mt_yX12_within ms_yX12_within wd_1390 (by decide) dX12_interest_24 rfl rfl (Nat.le_of_ble_eq_true rfl) (jroom (by decide)) rfl (m_within (by omega) (by omega) (by omega) (fun w24 => ?_) (fun w24 => ?_))
                    · dsimp only [jpush]
                      first
                       | (exfalso; omega)
                       | (skip
                          refine e_if_eq 30 56 dX12_interest_27 (by decide) (by decide) rfl (fun h => absurd h (by decide)) (fun _ => ?_)
                          refine e_iload_n (i := 3) 31 dX12_interest_30 rfl rfl rfl ?_
                          refine e_i2l 32 dX12_interest_31 (by omega) rfl ?_
                          refine e_lconst0 33 dX12_interest_32 rfl ?_
                          refine e_ldc2 (z := (300)) 36 (ix := 200) wd_1483 (by decide) dX12_interest_33 rfl ?_
                          refine e_callS 39 mt_yX12_within ms_yX12_within wd_1390 (by decide) dX12_interest_36 rfl rfl (Nat.le_of_ble_eq_true rfl) (jroom (by decide)) rfl (m_within (by omega) (by omega) (by omega) (fun w36 => ?_) (fun w36 => ?_))
                          · dsimp only [jpush]
                            first
                             | (exfalso; omega)
                             | (skip
                                refine e_if_eq 42 56 dX12_interest_39 (by decide) (by decide) rfl (fun h => absurd h (by decide)) (fun _ => ?_)
                                refine e_iload 44 dX12_interest_42 rfl rfl ?_
                                refine e_i2l 45 dX12_interest_44 (by omega) rfl ?_
                                refine e_iload_n (i := 3) 46 dX12_interest_45 rfl rfl rfl ?_
                                refine e_i2l 47 dX12_interest_46 (by omega) rfl ?_
                                refine e_ldc2 (z := (300)) 50 (ix := 200) wd_1483 (by decide) dX12_interest_47 rfl ?_
                                refine e_callS 53 mt_yX12_within ms_yX12_within wd_1390 (by decide) dX12_interest_50 rfl rfl (Nat.le_of_ble_eq_true rfl) (jroom (by decide)) rfl (m_within (by omega) (by omega) (by omega) (fun w50 => ?_) (fun w50 => ?_))
                                · dsimp only [jpush]
                                  first
                                   | (exfalso; omega)
                                   | (skip
                                      refine e_if_ne 56 59 dX12_interest_53 (by decide) (by decide) rfl (fun _ => ?_) (fun h => absurd h (by decide))
                                      refine e_iload_n (i := 1) 60 dX12_interest_59 rfl rfl rfl ?_
                                      refine e_iconst 61 dX12_interest_60 rfl ?_
                                      refine e_icmp_ne 64 78 dX12_interest_61 (by omega) (by decide) (by decide) rfl (fun b61 => ?_) (fun b61 => ?_)
                                      · first
                                         | (exfalso; omega)
                                         | (skip
                                            refine e_aload_n (i := 0) 79 dX12_interest_78 rfl rfl rfl ?_
                                            refine e_iload_n (i := 1) 80 dX12_interest_79 rfl rfl rfl ?_
                                            refine e_if_ne 83 87 dX12_interest_80 (by omega) (by decide) rfl (fun b80 => ?_) (fun b80 => ?_)
                                            · first
                                               | (exfalso; omega)
                                               | (skip
                                                  refine e_bipush 89 dX12_interest_87 (by decide) rfl ?_
                                                  refine e_iload_n (i := 2) 90 dX12_interest_89 rfl rfl rfl ?_
                                                  refine e_iload 92 dX12_interest_90 rfl rfl ?_
                                                  refine e_iload_n (i := 3) 93 dX12_interest_92 rfl rfl rfl ?_
                                                  refine e_isub 94 dX12_interest_93 rfl ?_
                                                  refine e_callS 97 mt_yX12_halvesOf ms_yX12_halvesOf wd_1484 (by decide) dX12_interest_94 rfl rfl (Nat.le_of_ble_eq_true rfl) (jroom (by decide)) rfl (m_halvesOf (by omega) ?_)
                                                  dsimp only [jpush]
                                                  refine e_callV 100 mt_yX12_interestBy mv_yX12_interestBy wd_1487 (by decide) dX12_interest_97 at_928 jc_12 rfl rfl rfl (Nat.le_of_ble_eq_true rfl) (jroom (by decide)) rfl (m_interestBy (by decide) (by omega) (by omega) hC.rolaw (fun w97 => ?_) (fun w97 => ?_))
                                                  · dsimp only [jpush]
                                                    have hr1 := rChg_rng (loan := loan) (hv := 1 + (to - fr) / 2) hC.rlaw (by omega) (by omega)
                                                    have hr2 := rChg_rng (loan := loan) (hv := 1 + (to - fr) / 2) hC.rolaw (by omega) (by omega)
                                                    first
                                                     | (exfalso; omega)
                                                     | (skip
                                                        refine e_istore (lsn := [(5, _), (0, _), (1, _), (2, _), (3, _), (4, _)]) 102 dX12_interest_100 (by decide) rfl rfl ?_
                                                        refine e_iload 104 dX12_interest_102 rfl rfl ?_
                                                        refine e_iconst 105 dX12_interest_104 rfl ?_
                                                        refine e_icmp_ne 108 113 dX12_interest_105 (by omega) (by decide) (by decide) rfl (fun b105 => ?_) (fun b105 => ?_)
                                                        · first
                                                           | (exfalso; omega)
                                                           | (skip
                                                              refine e_iload 115 dX12_interest_113 rfl rfl ?_
                                                              refine e_iret dX12_interest_115 ?_
                                                              first
                                                                | (exact ⟨by omega, hI⟩)
                                                                | (rw [hC.lrel.chg]
                                                                   exact ⟨by omega, hI⟩)
                                                                | (rw [hC.lrelo.chg]
                                                                   exact ⟨by omega, hI⟩)
                                                                | (exfalso
                                                                   have q1 := hC.lrel.top
                                                                   have q2 := hC.lrelo.top
                                                                   have q3 := fTop_0 (M := M)
                                                                   omega))
                                                        · first
                                                           | (exfalso; omega)
                                                           | (skip
                                                              refine e_bipush 110 dX12_interest_108 (by decide) rfl ?_
                                                              refine e_goto 115 dX12_interest_110 (by decide) ?_
                                                              refine e_iret dX12_interest_115 ?_
                                                              first
                                                                | (exact ⟨by omega, hI⟩)
                                                                | (rw [hC.lrel.chg]
                                                                   exact ⟨by omega, hI⟩)
                                                                | (rw [hC.lrelo.chg]
                                                                   exact ⟨by omega, hI⟩)
                                                                | (exfalso
                                                                   have q1 := hC.lrel.top
                                                                   have q2 := hC.lrelo.top
                                                                   have q3 := fTop_0 (M := M)
                                                                   omega)))
                                                  · dsimp only [jpush]
                                                    have hr1 := rChg_rng (loan := loan) (hv := 1 + (to - fr) / 2) hC.rlaw (by omega) (by omega)
                                                    have hr2 := rChg_rng (loan := loan) (hv := 1 + (to - fr) / 2) hC.rolaw (by omega) (by omega)
                                                    first
                                                     | (exfalso; omega)
                                                     | (skip
                                                        refine e_istore (lsn := [(5, _), (0, _), (1, _), (2, _), (3, _), (4, _)]) 102 dX12_interest_100 (by decide) rfl rfl ?_
                                                        refine e_iload 104 dX12_interest_102 rfl rfl ?_
                                                        refine e_iconst 105 dX12_interest_104 rfl ?_
                                                        refine e_icmp_ne 108 113 dX12_interest_105 (by decide) (by decide) (by decide) rfl (fun h => absurd h (by decide)) (fun _ => ?_)
                                                        refine e_bipush 110 dX12_interest_108 (by decide) rfl ?_
                                                        refine e_goto 115 dX12_interest_110 (by decide) ?_
                                                        refine e_iret dX12_interest_115 ?_
                                                        first
                                                          | (exact ⟨by omega, hI⟩)
                                                          | (rw [hC.lrel.chg]
                                                             exact ⟨by omega, hI⟩)
                                                          | (rw [hC.lrelo.chg]
                                                             exact ⟨by omega, hI⟩)
                                                          | (exfalso
                                                             have q1 := hC.lrel.top
                                                             have q2 := hC.lrelo.top
                                                             have q3 := fTop_0 (M := M)
                                                             omega)))
                                            · first
                                               | (exfalso; omega)
                                               | (skip
                                                  refine e_iconst 84 dX12_interest_83 rfl ?_
                                                  refine e_goto 89 dX12_interest_84 (by decide) ?_
                                                  refine e_iload_n (i := 2) 90 dX12_interest_89 rfl rfl rfl ?_
                                                  refine e_iload 92 dX12_interest_90 rfl rfl ?_
                                                  refine e_iload_n (i := 3) 93 dX12_interest_92 rfl rfl rfl ?_
                                                  refine e_isub 94 dX12_interest_93 rfl ?_
                                                  refine e_callS 97 mt_yX12_halvesOf ms_yX12_halvesOf wd_1484 (by decide) dX12_interest_94 rfl rfl (Nat.le_of_ble_eq_true rfl) (jroom (by decide)) rfl (m_halvesOf (by omega) ?_)
                                                  dsimp only [jpush]
                                                  refine e_callV 100 mt_yX12_interestBy mv_yX12_interestBy wd_1487 (by decide) dX12_interest_97 at_928 jc_12 rfl rfl rfl (Nat.le_of_ble_eq_true rfl) (jroom (by decide)) rfl (m_interestBy (by decide) (by omega) (by omega) hC.rlaw (fun w97 => ?_) (fun w97 => ?_))
                                                  · dsimp only [jpush]
                                                    have hr1 := rChg_rng (loan := loan) (hv := 1 + (to - fr) / 2) hC.rlaw (by omega) (by omega)
                                                    have hr2 := rChg_rng (loan := loan) (hv := 1 + (to - fr) / 2) hC.rolaw (by omega) (by omega)
                                                    first
                                                     | (exfalso; omega)
                                                     | (skip
                                                        refine e_istore (lsn := [(5, _), (0, _), (1, _), (2, _), (3, _), (4, _)]) 102 dX12_interest_100 (by decide) rfl rfl ?_
                                                        refine e_iload 104 dX12_interest_102 rfl rfl ?_
                                                        refine e_iconst 105 dX12_interest_104 rfl ?_
                                                        refine e_icmp_ne 108 113 dX12_interest_105 (by omega) (by decide) (by decide) rfl (fun b105 => ?_) (fun b105 => ?_)
                                                        · first
                                                           | (exfalso; omega)
                                                           | (skip
                                                              refine e_iload 115 dX12_interest_113 rfl rfl ?_
                                                              refine e_iret dX12_interest_115 ?_
                                                              first
                                                                | (exact ⟨by omega, hI⟩)
                                                                | (rw [hC.lrel.chg]
                                                                   exact ⟨by omega, hI⟩)
                                                                | (rw [hC.lrelo.chg]
                                                                   exact ⟨by omega, hI⟩)
                                                                | (exfalso
                                                                   have q1 := hC.lrel.top
                                                                   have q2 := hC.lrelo.top
                                                                   have q3 := fTop_0 (M := M)
                                                                   omega))
                                                        · first
                                                           | (exfalso; omega)
                                                           | (skip
                                                              refine e_bipush 110 dX12_interest_108 (by decide) rfl ?_
                                                              refine e_goto 115 dX12_interest_110 (by decide) ?_
                                                              refine e_iret dX12_interest_115 ?_
                                                              first
                                                                | (exact ⟨by omega, hI⟩)
                                                                | (rw [hC.lrel.chg]
                                                                   exact ⟨by omega, hI⟩)
                                                                | (rw [hC.lrelo.chg]
                                                                   exact ⟨by omega, hI⟩)
                                                                | (exfalso
                                                                   have q1 := hC.lrel.top
                                                                   have q2 := hC.lrelo.top
                                                                   have q3 := fTop_0 (M := M)
                                                                   omega)))
                                                  · dsimp only [jpush]
                                                    have hr1 := rChg_rng (loan := loan) (hv := 1 + (to - fr) / 2) hC.rlaw (by omega) (by omega)
                                                    have hr2 := rChg_rng (loan := loan) (hv := 1 + (to - fr) / 2) hC.rolaw (by omega) (by omega)
                                                    first
                                                     | (exfalso; omega)
                                                     | (skip
                                                        refine e_istore (lsn := [(5, _), (0, _), (1, _), (2, _), (3, _), (4, _)]) 102 dX12_interest_100 (by decide) rfl rfl ?_
                                                        refine e_iload 104 dX12_interest_102 rfl rfl ?_
                                                        refine e_iconst 105 dX12_interest_104 rfl ?_
                                                        refine e_icmp_ne 108 113 dX12_interest_105 (by decide) (by decide) (by decide) rfl (fun h => absurd h (by decide)) (fun _ => ?_)
                                                        refine e_bipush 110 dX12_interest_108 (by decide) rfl ?_
                                                        refine e_goto 115 dX12_interest_110 (by decide) ?_
                                                        refine e_iret dX12_interest_115 ?_
                                                        first
                                                          | (exact ⟨by omega, hI⟩)
                                                          | (rw [hC.lrel.chg]
                                                             exact ⟨by omega, hI⟩)
                                                          | (rw [hC.lrelo.chg]
                                                             exact ⟨by omega, hI⟩)
                                                          | (exfalso
                                                             have q1 := hC.lrel.top
                                                             have q2 := hC.lrelo.top
                                                             have q3 := fTop_0 (M := M)
                                                             omega))))
                                      · first
                                         | (exfalso; omega)
                                         | (skip
                                            refine e_aload_n (i := 0) 65 dX12_interest_64 rfl rfl rfl ?_
                                            refine e_getr (j := 1) 68 fl_12_13 dX12_interest_65 at_928 rfl rfl tp_928_1 rfl ?_
                                            refine e_bipush 70 dX12_interest_68 (by decide) rfl ?_
                                            refine e_iald 71 dX12_interest_70 ar_929 (by decide) (by decide) rfl (fun r70 => ?_)
                                            refine e_if_ne 74 78 dX12_interest_71 (by omega) (by decide) rfl (fun b71 => ?_) (fun b71 => ?_)
                                            · first
                                               | (exfalso; omega)
                                               | (skip
                                                  refine e_aload_n (i := 0) 79 dX12_interest_78 rfl rfl rfl ?_
                                                  refine e_iload_n (i := 1) 80 dX12_interest_79 rfl rfl rfl ?_
                                                  refine e_if_ne 83 87 dX12_interest_80 (by omega) (by decide) rfl (fun b80 => ?_) (fun b80 => ?_)
                                                  · first
                                                     | (exfalso; omega)
                                                     | (skip
                                                        refine e_bipush 89 dX12_interest_87 (by decide) rfl ?_
                                                        refine e_iload_n (i := 2) 90 dX12_interest_89 rfl rfl rfl ?_
                                                        refine e_iload 92 dX12_interest_90 rfl rfl ?_
                                                        refine e_iload_n (i := 3) 93 dX12_interest_92 rfl rfl rfl ?_
                                                        refine e_isub 94 dX12_interest_93 rfl ?_
                                                        refine e_callS 97 mt_yX12_halvesOf ms_yX12_halvesOf wd_1484 (by decide) dX12_interest_94 rfl rfl (Nat.le_of_ble_eq_true rfl) (jroom (by decide)) rfl (m_halvesOf (by omega) ?_)
                                                        dsimp only [jpush]
                                                        refine e_callV 100 mt_yX12_interestBy mv_yX12_interestBy wd_1487 (by decide) dX12_interest_97 at_928 jc_12 rfl rfl rfl (Nat.le_of_ble_eq_true rfl) (jroom (by decide)) rfl (m_interestBy (by decide) (by omega) (by omega) hC.rolaw (fun w97 => ?_) (fun w97 => ?_))
                                                        · dsimp only [jpush]
                                                          have hr1 := rChg_rng (loan := loan) (hv := 1 + (to - fr) / 2) hC.rlaw (by omega) (by omega)
                                                          have hr2 := rChg_rng (loan := loan) (hv := 1 + (to - fr) / 2) hC.rolaw (by omega) (by omega)
                                                          first
                                                           | (exfalso; omega)
                                                           | (skip
                                                              refine e_istore (lsn := [(5, _), (0, _), (1, _), (2, _), (3, _), (4, _)]) 102 dX12_interest_100 (by decide) rfl rfl ?_
                                                              refine e_iload 104 dX12_interest_102 rfl rfl ?_
                                                              refine e_iconst 105 dX12_interest_104 rfl ?_
                                                              refine e_icmp_ne 108 113 dX12_interest_105 (by omega) (by decide) (by decide) rfl (fun b105 => ?_) (fun b105 => ?_)
                                                              · first
                                                                 | (exfalso; omega)
                                                                 | (skip
                                                                    refine e_iload 115 dX12_interest_113 rfl rfl ?_
                                                                    refine e_iret dX12_interest_115 ?_
                                                                    first
                                                                      | (exact ⟨by omega, hI⟩)
                                                                      | (rw [hC.lrel.chg]
                                                                         exact ⟨by omega, hI⟩)
                                                                      | (rw [hC.lrelo.chg]
                                                                         exact ⟨by omega, hI⟩)
                                                                      | (exfalso
                                                                         have q1 := hC.lrel.top
                                                                         have q2 := hC.lrelo.top
                                                                         have q3 := fTop_0 (M := M)
                                                                         omega))
                                                              · first
                                                                 | (exfalso; omega)
                                                                 | (skip
                                                                    refine e_bipush 110 dX12_interest_108 (by decide) rfl ?_
                                                                    refine e_goto 115 dX12_interest_110 (by decide) ?_
                                                                    refine e_iret dX12_interest_115 ?_
                                                                    first
                                                                      | (exact ⟨by omega, hI⟩)
                                                                      | (rw [hC.lrel.chg]
                                                                         exact ⟨by omega, hI⟩)
                                                                      | (rw [hC.lrelo.chg]
                                                                         exact ⟨by omega, hI⟩)
                                                                      | (exfalso
                                                                         have q1 := hC.lrel.top
                                                                         have q2 := hC.lrelo.top
                                                                         have q3 := fTop_0 (M := M)
                                                                         omega)))
                                                        · dsimp only [jpush]
                                                          have hr1 := rChg_rng (loan := loan) (hv := 1 + (to - fr) / 2) hC.rlaw (by omega) (by omega)
                                                          have hr2 := rChg_rng (loan := loan) (hv := 1 + (to - fr) / 2) hC.rolaw (by omega) (by omega)
                                                          first
                                                           | (exfalso; omega)
                                                           | (skip
                                                              refine e_istore (lsn := [(5, _), (0, _), (1, _), (2, _), (3, _), (4, _)]) 102 dX12_interest_100 (by decide) rfl rfl ?_
                                                              refine e_iload 104 dX12_interest_102 rfl rfl ?_
                                                              refine e_iconst 105 dX12_interest_104 rfl ?_
                                                              refine e_icmp_ne 108 113 dX12_interest_105 (by decide) (by decide) (by decide) rfl (fun h => absurd h (by decide)) (fun _ => ?_)
                                                              refine e_bipush 110 dX12_interest_108 (by decide) rfl ?_
                                                              refine e_goto 115 dX12_interest_110 (by decide) ?_
                                                              refine e_iret dX12_interest_115 ?_
                                                              first
                                                                | (exact ⟨by omega, hI⟩)
                                                                | (rw [hC.lrel.chg]
                                                                   exact ⟨by omega, hI⟩)
                                                                | (rw [hC.lrelo.chg]
                                                                   exact ⟨by omega, hI⟩)
                                                                | (exfalso
                                                                   have q1 := hC.lrel.top
                                                                   have q2 := hC.lrelo.top
                                                                   have q3 := fTop_0 (M := M)
                                                                   omega)))
                                                  · first
                                                     | (exfalso; omega)
                                                     | (skip
                                                        refine e_iconst 84 dX12_interest_83 rfl ?_
                                                        refine e_goto 89 dX12_interest_84 (by decide) ?_
                                                        refine e_iload_n (i := 2) 90 dX12_interest_89 rfl rfl rfl ?_
                                                        refine e_iload 92 dX12_interest_90 rfl rfl ?_
                                                        refine e_iload_n (i := 3) 93 dX12_interest_92 rfl rfl rfl ?_
                                                        refine e_isub 94 dX12_interest_93 rfl ?_
                                                        refine e_callS 97 mt_yX12_halvesOf ms_yX12_halvesOf wd_1484 (by decide) dX12_interest_94 rfl rfl (Nat.le_of_ble_eq_true rfl) (jroom (by decide)) rfl (m_halvesOf (by omega) ?_)
                                                        dsimp only [jpush]
                                                        refine e_callV 100 mt_yX12_interestBy mv_yX12_interestBy wd_1487 (by decide) dX12_interest_97 at_928 jc_12 rfl rfl rfl (Nat.le_of_ble_eq_true rfl) (jroom (by decide)) rfl (m_interestBy (by decide) (by omega) (by omega) hC.rlaw (fun w97 => ?_) (fun w97 => ?_))
                                                        · dsimp only [jpush]
                                                          have hr1 := rChg_rng (loan := loan) (hv := 1 + (to - fr) / 2) hC.rlaw (by omega) (by omega)
                                                          have hr2 := rChg_rng (loan := loan) (hv := 1 + (to - fr) / 2) hC.rolaw (by omega) (by omega)
                                                          first
                                                           | (exfalso; omega)
                                                           | (skip
                                                              refine e_istore (lsn := [(5, _), (0, _), (1, _), (2, _), (3, _), (4, _)]) 102 dX12_interest_100 (by decide) rfl rfl ?_
                                                              refine e_iload 104 dX12_interest_102 rfl rfl ?_
                                                              refine e_iconst 105 dX12_interest_104 rfl ?_
                                                              refine e_icmp_ne 108 113 dX12_interest_105 (by omega) (by decide) (by decide) rfl (fun b105 => ?_) (fun b105 => ?_)
                                                              · first
                                                                 | (exfalso; omega)
                                                                 | (skip
                                                                    refine e_iload 115 dX12_interest_113 rfl rfl ?_
                                                                    refine e_iret dX12_interest_115 ?_
                                                                    first
                                                                      | (exact ⟨by omega, hI⟩)
                                                                      | (rw [hC.lrel.chg]
                                                                         exact ⟨by omega, hI⟩)
                                                                      | (rw [hC.lrelo.chg]
                                                                         exact ⟨by omega, hI⟩)
                                                                      | (exfalso
                                                                         have q1 := hC.lrel.top
                                                                         have q2 := hC.lrelo.top
                                                                         have q3 := fTop_0 (M := M)
                                                                         omega))
                                                              · first
                                                                 | (exfalso; omega)
                                                                 | (skip
                                                                    refine e_bipush 110 dX12_interest_108 (by decide) rfl ?_
                                                                    refine e_goto 115 dX12_interest_110 (by decide) ?_
                                                                    refine e_iret dX12_interest_115 ?_
                                                                    first
                                                                      | (exact ⟨by omega, hI⟩)
                                                                      | (rw [hC.lrel.chg]
                                                                         exact ⟨by omega, hI⟩)
                                                                      | (rw [hC.lrelo.chg]
                                                                         exact ⟨by omega, hI⟩)
                                                                      | (exfalso
                                                                         have q1 := hC.lrel.top
                                                                         have q2 := hC.lrelo.top
                                                                         have q3 := fTop_0 (M := M)
                                                                         omega)))
                                                        · dsimp only [jpush]
                                                          have hr1 := rChg_rng (loan := loan) (hv := 1 + (to - fr) / 2) hC.rlaw (by omega) (by omega)
                                                          have hr2 := rChg_rng (loan := loan) (hv := 1 + (to - fr) / 2) hC.rolaw (by omega) (by omega)
                                                          first
                                                           | (exfalso; omega)
                                                           | (skip
                                                              refine e_istore (lsn := [(5, _), (0, _), (1, _), (2, _), (3, _), (4, _)]) 102 dX12_interest_100 (by decide) rfl rfl ?_
                                                              refine e_iload 104 dX12_interest_102 rfl rfl ?_
                                                              refine e_iconst 105 dX12_interest_104 rfl ?_
                                                              refine e_icmp_ne 108 113 dX12_interest_105 (by decide) (by decide) (by decide) rfl (fun h => absurd h (by decide)) (fun _ => ?_)
                                                              refine e_bipush 110 dX12_interest_108 (by decide) rfl ?_
                                                              refine e_goto 115 dX12_interest_110 (by decide) ?_
                                                              refine e_iret dX12_interest_115 ?_
                                                              first
                                                                | (exact ⟨by omega, hI⟩)
                                                                | (rw [hC.lrel.chg]
                                                                   exact ⟨by omega, hI⟩)
                                                                | (rw [hC.lrelo.chg]
                                                                   exact ⟨by omega, hI⟩)
                                                                | (exfalso
                                                                   have q1 := hC.lrel.top
                                                                   have q2 := hC.lrelo.top
                                                                   have q3 := fTop_0 (M := M)
                                                                   omega))))
                                            · first
                                               | (exfalso; omega)
                                               | (skip
                                                  refine e_iconst 75 dX12_interest_74 rfl ?_
                                                  refine e_goto 100 dX12_interest_75 (by decide) ?_
                                                  refine e_istore (lsn := [(5, _), (0, _), (1, _), (2, _), (3, _), (4, _)]) 102 dX12_interest_100 (by decide) rfl rfl ?_
                                                  refine e_iload 104 dX12_interest_102 rfl rfl ?_
                                                  refine e_iconst 105 dX12_interest_104 rfl ?_
                                                  refine e_icmp_ne 108 113 dX12_interest_105 (by decide) (by decide) (by decide) rfl (fun h => absurd h (by decide)) (fun _ => ?_)
                                                  refine e_bipush 110 dX12_interest_108 (by decide) rfl ?_
                                                  refine e_goto 115 dX12_interest_110 (by decide) ?_
                                                  refine e_iret dX12_interest_115 ?_
                                                  first
                                                    | (exact ⟨by omega, hI⟩)
                                                    | (rw [hC.lrel.chg]
                                                       exact ⟨by omega, hI⟩)
                                                    | (rw [hC.lrelo.chg]
                                                       exact ⟨by omega, hI⟩)
                                                    | (exfalso
                                                       have q1 := hC.lrel.top
                                                       have q2 := hC.lrelo.top
                                                       have q3 := fTop_0 (M := M)
                                                       omega))))
                                · dsimp only [jpush]
                                  first
                                   | (exfalso; omega)
                                   | (skip
                                      refine e_if_ne 56 59 dX12_interest_53 (by decide) (by decide) rfl (fun h => absurd h (by decide)) (fun _ => ?_)
                                      refine e_bipush 58 dX12_interest_56 (by decide) rfl ?_
                                      refine e_iret dX12_interest_58 ?_
                                      first
                                        | (exact ⟨by omega, hI⟩)
                                        | (rw [hC.lrel.chg]
                                           exact ⟨by omega, hI⟩)
                                        | (rw [hC.lrelo.chg]
                                           exact ⟨by omega, hI⟩)
                                        | (exfalso
                                           have q1 := hC.lrel.top
                                           have q2 := hC.lrelo.top
                                           have q3 := fTop_0 (M := M)
                                           omega)))
                          · dsimp only [jpush]
                            first
                             | (exfalso; omega)
                             | (skip
                                refine e_if_eq 42 56 dX12_interest_39 (by decide) (by decide) rfl (fun _ => ?_) (fun h => absurd h (by decide))
                                refine e_bipush 58 dX12_interest_56 (by decide) rfl ?_
                                refine e_iret dX12_interest_58 ?_
                                first
                                  | (exact ⟨by omega, hI⟩)
                                  | (rw [hC.lrel.chg]
                                     exact ⟨by omega, hI⟩)
                                  | (rw [hC.lrelo.chg]
                                     exact ⟨by omega, hI⟩)
                                  | (exfalso
                                     have q1 := hC.lrel.top
                                     have q2 := hC.lrelo.top
                                     have q3 := fTop_0 (M := M)
                                     omega)))
                    · dsimp only [jpush]
                      first
                       | (exfalso; omega)
                       | (skip
                          refine e_if_eq 30 56 dX12_interest_27 (by decide) (by decide) rfl (fun _ => ?_) (fun h => absurd h (by decide))
                          refine e_bipush 58 dX12_interest_56 (by decide) rfl ?_
                          refine e_iret dX12_interest_58 ?_
                          first
                            | (exact ⟨by omega, hI⟩)
                            | (rw [hC.lrel.chg]
                               exact ⟨by omega, hI⟩)
                            | (rw [hC.lrelo.chg]
                               exact ⟨by omega, hI⟩)
                            | (exfalso
                               have q1 := hC.lrel.top
                               have q2 := hC.lrelo.top
                               have q3 := fTop_0 (M := M)
                               omega)))
              · dsimp only [jpush]
                first
                 | (exfalso; omega)
                 | (skip
                    refine e_if_ne 15 18 dX12_interest_12 (by decide) (by decide) rfl (fun h => absurd h (by decide)) (fun _ => ?_)
                    refine e_bipush 17 dX12_interest_15 (by decide) rfl ?_
                    refine e_iret dX12_interest_17 ?_
                    first
                      | (exact ⟨by omega, hI⟩)
                      | (rw [hC.lrel.chg]
                         exact ⟨by omega, hI⟩)
                      | (rw [hC.lrelo.chg]
                         exact ⟨by omega, hI⟩)
                      | (exfalso
                         have q1 := hC.lrel.top
                         have q2 := hC.lrelo.top
                         have q3 := fTop_0 (M := M)
                         omega))
        · dsimp only [jpush]
          refine e_if_ne 42 45 dX11_interest_39 (by decide) (by decide) rfl (fun h => absurd h (by decide)) (fun _ => ?_)
          refine e_bipush 44 dX11_interest_42 (by decide) rfl ?_
          refine e_iret dX11_interest_44 ?_
          refine jCt_of mt_yX12_interest (Nat.le_of_ble_eq_true rfl) (fun X2 => ?_)
          refine e_aload_n (i := 0) 1 dX12_interest_0 rfl rfl rfl ?_
          refine e_iconst 2 dX12_interest_1 rfl ?_
          refine e_put0 (j := 0) 5 fl_12_1 dX12_interest_2 at_928 rfl rfl rfl (by decide) hI.1 rfl ?_
          refine e_iload_n (i := 1) 6 dX12_interest_5 rfl rfl rfl ?_
          refine e_i2l 7 dX12_interest_6 (by omega) rfl ?_
          refine e_lconst0 8 dX12_interest_7 rfl ?_
          refine e_lconst1 9 dX12_interest_8 rfl ?_
          refine e_callS 12 mt_yX12_within ms_yX12_within wd_1390 (by decide) dX12_interest_9 rfl rfl (Nat.le_of_ble_eq_true rfl) (jroom (by decide)) rfl (m_within (by omega) (by omega) (by omega) (fun w9 => ?_) (fun w9 => ?_))
          · dsimp only [jpush]
            first
             | (exfalso; omega)
             | (skip
                refine e_if_ne 15 18 dX12_interest_12 (by decide) (by decide) rfl (fun _ => ?_) (fun h => absurd h (by decide))
                refine e_iload_n (i := 2) 19 dX12_interest_18 rfl rfl rfl ?_
                refine e_i2l 20 dX12_interest_19 (by omega) rfl ?_
                refine e_lconst1 21 dX12_interest_20 rfl ?_
                refine e_ldc2 (z := (999)) 24 (ix := 198) wd_1482 (by decide) dX12_interest_21 rfl ?_
                refine e_callS 27 mt_yX12_within ms_yX12_within wd_1390 (by decide) dX12_interest_24 rfl rfl (Nat.le_of_ble_eq_true rfl) (jroom (by decide)) rfl (m_within (by omega) (by omega) (by omega) (fun w24 => ?_) (fun w24 => ?_))
                · dsimp only [jpush]
                  first
                   | (exfalso; omega)
                   | (skip
                      refine e_if_eq 30 56 dX12_interest_27 (by decide) (by decide) rfl (fun h => absurd h (by decide)) (fun _ => ?_)
                      refine e_iload_n (i := 3) 31 dX12_interest_30 rfl rfl rfl ?_
                      refine e_i2l 32 dX12_interest_31 (by omega) rfl ?_
                      refine e_lconst0 33 dX12_interest_32 rfl ?_
                      refine e_ldc2 (z := (300)) 36 (ix := 200) wd_1483 (by decide) dX12_interest_33 rfl ?_
                      refine e_callS 39 mt_yX12_within ms_yX12_within wd_1390 (by decide) dX12_interest_36 rfl rfl (Nat.le_of_ble_eq_true rfl) (jroom (by decide)) rfl (m_within (by omega) (by omega) (by omega) (fun w36 => ?_) (fun w36 => ?_))
                      · dsimp only [jpush]
                        first
                         | (exfalso; omega)
                         | (skip
                            refine e_if_eq 42 56 dX12_interest_39 (by decide) (by decide) rfl (fun h => absurd h (by decide)) (fun _ => ?_)
                            refine e_iload 44 dX12_interest_42 rfl rfl ?_
                            refine e_i2l 45 dX12_interest_44 (by omega) rfl ?_
                            refine e_iload_n (i := 3) 46 dX12_interest_45 rfl rfl rfl ?_
                            refine e_i2l 47 dX12_interest_46 (by omega) rfl ?_
                            refine e_ldc2 (z := (300)) 50 (ix := 200) wd_1483 (by decide) dX12_interest_47 rfl ?_
                            refine e_callS 53 mt_yX12_within ms_yX12_within wd_1390 (by decide) dX12_interest_50 rfl rfl (Nat.le_of_ble_eq_true rfl) (jroom (by decide)) rfl (m_within (by omega) (by omega) (by omega) (fun w50 => ?_) (fun w50 => ?_))
                            · dsimp only [jpush]
                              first
                               | (exfalso; omega)
                               | (skip
                                  refine e_if_ne 56 59 dX12_interest_53 (by decide) (by decide) rfl (fun _ => ?_) (fun h => absurd h (by decide))
                                  refine e_iload_n (i := 1) 60 dX12_interest_59 rfl rfl rfl ?_
                                  refine e_iconst 61 dX12_interest_60 rfl ?_
                                  refine e_icmp_ne 64 78 dX12_interest_61 (by omega) (by decide) (by decide) rfl (fun b61 => ?_) (fun b61 => ?_)
                                  · first
                                     | (exfalso; omega)
                                     | (skip
                                        refine e_aload_n (i := 0) 79 dX12_interest_78 rfl rfl rfl ?_
                                        refine e_iload_n (i := 1) 80 dX12_interest_79 rfl rfl rfl ?_
                                        refine e_if_ne 83 87 dX12_interest_80 (by omega) (by decide) rfl (fun b80 => ?_) (fun b80 => ?_)
                                        · first
                                           | (exfalso; omega)
                                           | (skip
                                              refine e_bipush 89 dX12_interest_87 (by decide) rfl ?_
                                              refine e_iload_n (i := 2) 90 dX12_interest_89 rfl rfl rfl ?_
                                              refine e_iload 92 dX12_interest_90 rfl rfl ?_
                                              refine e_iload_n (i := 3) 93 dX12_interest_92 rfl rfl rfl ?_
                                              refine e_isub 94 dX12_interest_93 rfl ?_
                                              refine e_callS 97 mt_yX12_halvesOf ms_yX12_halvesOf wd_1484 (by decide) dX12_interest_94 rfl rfl (Nat.le_of_ble_eq_true rfl) (jroom (by decide)) rfl (m_halvesOf (by omega) ?_)
                                              dsimp only [jpush]
                                              refine e_callV 100 mt_yX12_interestBy mv_yX12_interestBy wd_1487 (by decide) dX12_interest_97 at_928 jc_12 rfl rfl rfl (Nat.le_of_ble_eq_true rfl) (jroom (by decide)) rfl (m_interestBy (by decide) (by omega) (by omega) hC.rolaw (fun w97 => ?_) (fun w97 => ?_))
                                              · dsimp only [jpush]
                                                have hr1 := rChg_rng (loan := loan) (hv := 1 + (to - fr) / 2) hC.rlaw (by omega) (by omega)
                                                have hr2 := rChg_rng (loan := loan) (hv := 1 + (to - fr) / 2) hC.rolaw (by omega) (by omega)
                                                first
                                                 | (exfalso; omega)
                                                 | (skip
                                                    refine e_istore (lsn := [(5, _), (0, _), (1, _), (2, _), (3, _), (4, _)]) 102 dX12_interest_100 (by decide) rfl rfl ?_
                                                    refine e_iload 104 dX12_interest_102 rfl rfl ?_
                                                    refine e_iconst 105 dX12_interest_104 rfl ?_
                                                    refine e_icmp_ne 108 113 dX12_interest_105 (by omega) (by decide) (by decide) rfl (fun b105 => ?_) (fun b105 => ?_)
                                                    · first
                                                       | (exfalso; omega)
                                                       | (skip
                                                          refine e_iload 115 dX12_interest_113 rfl rfl ?_
                                                          refine e_iret dX12_interest_115 ?_
                                                          first
                                                            | (exact ⟨by omega, hI⟩)
                                                            | (rw [hC.lrel.chg]
                                                               exact ⟨by omega, hI⟩)
                                                            | (rw [hC.lrelo.chg]
                                                               exact ⟨by omega, hI⟩)
                                                            | (exfalso
                                                               have q1 := hC.lrel.top
                                                               have q2 := hC.lrelo.top
                                                               have q3 := fTop_0 (M := M)
                                                               omega))
                                                    · first
                                                       | (exfalso; omega)
                                                       | (skip
                                                          refine e_bipush 110 dX12_interest_108 (by decide) rfl ?_
                                                          refine e_goto 115 dX12_interest_110 (by decide) ?_
                                                          refine e_iret dX12_interest_115 ?_
                                                          first
                                                            | (exact ⟨by omega, hI⟩)
                                                            | (rw [hC.lrel.chg]
                                                               exact ⟨by omega, hI⟩)
                                                            | (rw [hC.lrelo.chg]
                                                               exact ⟨by omega, hI⟩)
                                                            | (exfalso
                                                               have q1 := hC.lrel.top
                                                               have q2 := hC.lrelo.top
                                                               have q3 := fTop_0 (M := M)
                                                               omega)))
                                              · dsimp only [jpush]
                                                have hr1 := rChg_rng (loan := loan) (hv := 1 + (to - fr) / 2) hC.rlaw (by omega) (by omega)
                                                have hr2 := rChg_rng (loan := loan) (hv := 1 + (to - fr) / 2) hC.rolaw (by omega) (by omega)
                                                first
                                                 | (exfalso; omega)
                                                 | (skip
                                                    refine e_istore (lsn := [(5, _), (0, _), (1, _), (2, _), (3, _), (4, _)]) 102 dX12_interest_100 (by decide) rfl rfl ?_
                                                    refine e_iload 104 dX12_interest_102 rfl rfl ?_
                                                    refine e_iconst 105 dX12_interest_104 rfl ?_
                                                    refine e_icmp_ne 108 113 dX12_interest_105 (by decide) (by decide) (by decide) rfl (fun h => absurd h (by decide)) (fun _ => ?_)
                                                    refine e_bipush 110 dX12_interest_108 (by decide) rfl ?_
                                                    refine e_goto 115 dX12_interest_110 (by decide) ?_
                                                    refine e_iret dX12_interest_115 ?_
                                                    first
                                                      | (exact ⟨by omega, hI⟩)
                                                      | (rw [hC.lrel.chg]
                                                         exact ⟨by omega, hI⟩)
                                                      | (rw [hC.lrelo.chg]
                                                         exact ⟨by omega, hI⟩)
                                                      | (exfalso
                                                         have q1 := hC.lrel.top
                                                         have q2 := hC.lrelo.top
                                                         have q3 := fTop_0 (M := M)
                                                         omega)))
                                        · first
                                           | (exfalso; omega)
                                           | (skip
                                              refine e_iconst 84 dX12_interest_83 rfl ?_
                                              refine e_goto 89 dX12_interest_84 (by decide) ?_
                                              refine e_iload_n (i := 2) 90 dX12_interest_89 rfl rfl rfl ?_
                                              refine e_iload 92 dX12_interest_90 rfl rfl ?_
                                              refine e_iload_n (i := 3) 93 dX12_interest_92 rfl rfl rfl ?_
                                              refine e_isub 94 dX12_interest_93 rfl ?_
                                              refine e_callS 97 mt_yX12_halvesOf ms_yX12_halvesOf wd_1484 (by decide) dX12_interest_94 rfl rfl (Nat.le_of_ble_eq_true rfl) (jroom (by decide)) rfl (m_halvesOf (by omega) ?_)
                                              dsimp only [jpush]
                                              refine e_callV 100 mt_yX12_interestBy mv_yX12_interestBy wd_1487 (by decide) dX12_interest_97 at_928 jc_12 rfl rfl rfl (Nat.le_of_ble_eq_true rfl) (jroom (by decide)) rfl (m_interestBy (by decide) (by omega) (by omega) hC.rlaw (fun w97 => ?_) (fun w97 => ?_))
                                              · dsimp only [jpush]
                                                have hr1 := rChg_rng (loan := loan) (hv := 1 + (to - fr) / 2) hC.rlaw (by omega) (by omega)
                                                have hr2 := rChg_rng (loan := loan) (hv := 1 + (to - fr) / 2) hC.rolaw (by omega) (by omega)
                                                first
                                                 | (exfalso; omega)
                                                 | (skip
                                                    refine e_istore (lsn := [(5, _), (0, _), (1, _), (2, _), (3, _), (4, _)]) 102 dX12_interest_100 (by decide) rfl rfl ?_
                                                    refine e_iload 104 dX12_interest_102 rfl rfl ?_
                                                    refine e_iconst 105 dX12_interest_104 rfl ?_
                                                    refine e_icmp_ne 108 113 dX12_interest_105 (by omega) (by decide) (by decide) rfl (fun b105 => ?_) (fun b105 => ?_)
                                                    · first
                                                       | (exfalso; omega)
                                                       | (skip
                                                          refine e_iload 115 dX12_interest_113 rfl rfl ?_
                                                          refine e_iret dX12_interest_115 ?_
                                                          first
                                                            | (exact ⟨by omega, hI⟩)
                                                            | (rw [hC.lrel.chg]
                                                               exact ⟨by omega, hI⟩)
                                                            | (rw [hC.lrelo.chg]
                                                               exact ⟨by omega, hI⟩)
                                                            | (exfalso
                                                               have q1 := hC.lrel.top
                                                               have q2 := hC.lrelo.top
                                                               have q3 := fTop_0 (M := M)
                                                               omega))
                                                    · first
                                                       | (exfalso; omega)
                                                       | (skip
                                                          refine e_bipush 110 dX12_interest_108 (by decide) rfl ?_
                                                          refine e_goto 115 dX12_interest_110 (by decide) ?_
                                                          refine e_iret dX12_interest_115 ?_
                                                          first
                                                            | (exact ⟨by omega, hI⟩)
                                                            | (rw [hC.lrel.chg]
                                                               exact ⟨by omega, hI⟩)
                                                            | (rw [hC.lrelo.chg]
                                                               exact ⟨by omega, hI⟩)
                                                            | (exfalso
                                                               have q1 := hC.lrel.top
                                                               have q2 := hC.lrelo.top
                                                               have q3 := fTop_0 (M := M)
                                                               omega)))
                                              · dsimp only [jpush]
                                                have hr1 := rChg_rng (loan := loan) (hv := 1 + (to - fr) / 2) hC.rlaw (by omega) (by omega)
                                                have hr2 := rChg_rng (loan := loan) (hv := 1 + (to - fr) / 2) hC.rolaw (by omega) (by omega)
                                                first
                                                 | (exfalso; omega)
                                                 | (skip
                                                    refine e_istore (lsn := [(5, _), (0, _), (1, _), (2, _), (3, _), (4, _)]) 102 dX12_interest_100 (by decide) rfl rfl ?_
                                                    refine e_iload 104 dX12_interest_102 rfl rfl ?_
                                                    refine e_iconst 105 dX12_interest_104 rfl ?_
                                                    refine e_icmp_ne 108 113 dX12_interest_105 (by decide) (by decide) (by decide) rfl (fun h => absurd h (by decide)) (fun _ => ?_)
                                                    refine e_bipush 110 dX12_interest_108 (by decide) rfl ?_
                                                    refine e_goto 115 dX12_interest_110 (by decide) ?_
                                                    refine e_iret dX12_interest_115 ?_
                                                    first
                                                      | (exact ⟨by omega, hI⟩)
                                                      | (rw [hC.lrel.chg]
                                                         exact ⟨by omega, hI⟩)
                                                      | (rw [hC.lrelo.chg]
                                                         exact ⟨by omega, hI⟩)
                                                      | (exfalso
                                                         have q1 := hC.lrel.top
                                                         have q2 := hC.lrelo.top
                                                         have q3 := fTop_0 (M := M)
                                                         omega))))
                                  · first
                                     | (exfalso; omega)
                                     | (skip
                                        refine e_aload_n (i := 0) 65 dX12_interest_64 rfl rfl rfl ?_
                                        refine e_getr (j := 1) 68 fl_12_13 dX12_interest_65 at_928 rfl rfl tp_928_1 rfl ?_
                                        refine e_bipush 70 dX12_interest_68 (by decide) rfl ?_
                                        refine e_iald 71 dX12_interest_70 ar_929 (by decide) (by decide) rfl (fun r70 => ?_)
                                        refine e_if_ne 74 78 dX12_interest_71 (by omega) (by decide) rfl (fun b71 => ?_) (fun b71 => ?_)
                                        · first
                                           | (exfalso; omega)
                                           | (skip
                                              refine e_aload_n (i := 0) 79 dX12_interest_78 rfl rfl rfl ?_
                                              refine e_iload_n (i := 1) 80 dX12_interest_79 rfl rfl rfl ?_
                                              refine e_if_ne 83 87 dX12_interest_80 (by omega) (by decide) rfl (fun b80 => ?_) (fun b80 => ?_)
                                              · first
                                                 | (exfalso; omega)
                                                 | (skip
                                                    refine e_bipush 89 dX12_interest_87 (by decide) rfl ?_
                                                    refine e_iload_n (i := 2) 90 dX12_interest_89 rfl rfl rfl ?_
                                                    refine e_iload 92 dX12_interest_90 rfl rfl ?_
                                                    refine e_iload_n (i := 3) 93 dX12_interest_92 rfl rfl rfl ?_
                                                    refine e_isub 94 dX12_interest_93 rfl ?_
                                                    refine e_callS 97 mt_yX12_halvesOf ms_yX12_halvesOf wd_1484 (by decide) dX12_interest_94 rfl rfl (Nat.le_of_ble_eq_true rfl) (jroom (by decide)) rfl (m_halvesOf (by omega) ?_)
                                                    dsimp only [jpush]
                                                    refine e_callV 100 mt_yX12_interestBy mv_yX12_interestBy wd_1487 (by decide) dX12_interest_97 at_928 jc_12 rfl rfl rfl (Nat.le_of_ble_eq_true rfl) (jroom (by decide)) rfl (m_interestBy (by decide) (by omega) (by omega) hC.rolaw (fun w97 => ?_) (fun w97 => ?_))
                                                    · dsimp only [jpush]
                                                      have hr1 := rChg_rng (loan := loan) (hv := 1 + (to - fr) / 2) hC.rlaw (by omega) (by omega)
                                                      have hr2 := rChg_rng (loan := loan) (hv := 1 + (to - fr) / 2) hC.rolaw (by omega) (by omega)
                                                      first
                                                       | (exfalso; omega)
                                                       | (skip
                                                          refine e_istore (lsn := [(5, _), (0, _), (1, _), (2, _), (3, _), (4, _)]) 102 dX12_interest_100 (by decide) rfl rfl ?_
                                                          refine e_iload 104 dX12_interest_102 rfl rfl ?_
                                                          refine e_iconst 105 dX12_interest_104 rfl ?_
                                                          refine e_icmp_ne 108 113 dX12_interest_105 (by omega) (by decide) (by decide) rfl (fun b105 => ?_) (fun b105 => ?_)
                                                          · first
                                                             | (exfalso; omega)
                                                             | (skip
                                                                refine e_iload 115 dX12_interest_113 rfl rfl ?_
                                                                refine e_iret dX12_interest_115 ?_
                                                                first
                                                                  | (exact ⟨by omega, hI⟩)
                                                                  | (rw [hC.lrel.chg]
                                                                     exact ⟨by omega, hI⟩)
                                                                  | (rw [hC.lrelo.chg]
                                                                     exact ⟨by omega, hI⟩)
                                                                  | (exfalso
                                                                     have q1 := hC.lrel.top
                                                                     have q2 := hC.lrelo.top
                                                                     have q3 := fTop_0 (M := M)
                                                                     omega))
                                                          · first
                                                             | (exfalso; omega)
                                                             | (skip
                                                                refine e_bipush 110 dX12_interest_108 (by decide) rfl ?_
                                                                refine e_goto 115 dX12_interest_110 (by decide) ?_
                                                                refine e_iret dX12_interest_115 ?_
                                                                first
                                                                  | (exact ⟨by omega, hI⟩)
                                                                  | (rw [hC.lrel.chg]
                                                                     exact ⟨by omega, hI⟩)
                                                                  | (rw [hC.lrelo.chg]
                                                                     exact ⟨by omega, hI⟩)
                                                                  | (exfalso
                                                                     have q1 := hC.lrel.top
                                                                     have q2 := hC.lrelo.top
                                                                     have q3 := fTop_0 (M := M)
                                                                     omega)))
                                                    · dsimp only [jpush]
                                                      have hr1 := rChg_rng (loan := loan) (hv := 1 + (to - fr) / 2) hC.rlaw (by omega) (by omega)
                                                      have hr2 := rChg_rng (loan := loan) (hv := 1 + (to - fr) / 2) hC.rolaw (by omega) (by omega)
                                                      first
                                                       | (exfalso; omega)
                                                       | (skip
                                                          refine e_istore (lsn := [(5, _), (0, _), (1, _), (2, _), (3, _), (4, _)]) 102 dX12_interest_100 (by decide) rfl rfl ?_
                                                          refine e_iload 104 dX12_interest_102 rfl rfl ?_
                                                          refine e_iconst 105 dX12_interest_104 rfl ?_
                                                          refine e_icmp_ne 108 113 dX12_interest_105 (by decide) (by decide) (by decide) rfl (fun h => absurd h (by decide)) (fun _ => ?_)
                                                          refine e_bipush 110 dX12_interest_108 (by decide) rfl ?_
                                                          refine e_goto 115 dX12_interest_110 (by decide) ?_
                                                          refine e_iret dX12_interest_115 ?_
                                                          first
                                                            | (exact ⟨by omega, hI⟩)
                                                            | (rw [hC.lrel.chg]
                                                               exact ⟨by omega, hI⟩)
                                                            | (rw [hC.lrelo.chg]
                                                               exact ⟨by omega, hI⟩)
                                                            | (exfalso
                                                               have q1 := hC.lrel.top
                                                               have q2 := hC.lrelo.top
                                                               have q3 := fTop_0 (M := M)
                                                               omega)))
                                              · first
                                                 | (exfalso; omega)
                                                 | (skip
                                                    refine e_iconst 84 dX12_interest_83 rfl ?_
                                                    refine e_goto 89 dX12_interest_84 (by decide) ?_
                                                    refine e_iload_n (i := 2) 90 dX12_interest_89 rfl rfl rfl ?_
                                                    refine e_iload 92 dX12_interest_90 rfl rfl ?_
                                                    refine e_iload_n (i := 3) 93 dX12_interest_92 rfl rfl rfl ?_
                                                    refine e_isub 94 dX12_interest_93 rfl ?_
                                                    refine e_callS 97 mt_yX12_halvesOf ms_yX12_halvesOf wd_1484 (by decide) dX12_interest_94 rfl rfl (Nat.le_of_ble_eq_true rfl) (jroom (by decide)) rfl (m_halvesOf (by omega) ?_)
                                                    dsimp only [jpush]
                                                    refine e_callV 100 mt_yX12_interestBy mv_yX12_interestBy wd_1487 (by decide) dX12_interest_97 at_928 jc_12 rfl rfl rfl (Nat.le_of_ble_eq_true rfl) (jroom (by decide)) rfl (m_interestBy (by decide) (by omega) (by omega) hC.rlaw (fun w97 => ?_) (fun w97 => ?_))
                                                    · dsimp only [jpush]
                                                      have hr1 := rChg_rng (loan := loan) (hv := 1 + (to - fr) / 2) hC.rlaw (by omega) (by omega)
                                                      have hr2 := rChg_rng (loan := loan) (hv := 1 + (to - fr) / 2) hC.rolaw (by omega) (by omega)
                                                      first
                                                       | (exfalso; omega)
                                                       | (skip
                                                          refine e_istore (lsn := [(5, _), (0, _), (1, _), (2, _), (3, _), (4, _)]) 102 dX12_interest_100 (by decide) rfl rfl ?_
                                                          refine e_iload 104 dX12_interest_102 rfl rfl ?_
                                                          refine e_iconst 105 dX12_interest_104 rfl ?_
                                                          refine e_icmp_ne 108 113 dX12_interest_105 (by omega) (by decide) (by decide) rfl (fun b105 => ?_) (fun b105 => ?_)
                                                          · first
                                                             | (exfalso; omega)
                                                             | (skip
                                                                refine e_iload 115 dX12_interest_113 rfl rfl ?_
                                                                refine e_iret dX12_interest_115 ?_
                                                                first
                                                                  | (exact ⟨by omega, hI⟩)
                                                                  | (rw [hC.lrel.chg]
                                                                     exact ⟨by omega, hI⟩)
                                                                  | (rw [hC.lrelo.chg]
                                                                     exact ⟨by omega, hI⟩)
                                                                  | (exfalso
                                                                     have q1 := hC.lrel.top
                                                                     have q2 := hC.lrelo.top
                                                                     have q3 := fTop_0 (M := M)
                                                                     omega))
                                                          · first
                                                             | (exfalso; omega)
                                                             | (skip
                                                                refine e_bipush 110 dX12_interest_108 (by decide) rfl ?_
                                                                refine e_goto 115 dX12_interest_110 (by decide) ?_
                                                                refine e_iret dX12_interest_115 ?_
                                                                first
                                                                  | (exact ⟨by omega, hI⟩)
                                                                  | (rw [hC.lrel.chg]
                                                                     exact ⟨by omega, hI⟩)
                                                                  | (rw [hC.lrelo.chg]
                                                                     exact ⟨by omega, hI⟩)
                                                                  | (exfalso
                                                                     have q1 := hC.lrel.top
                                                                     have q2 := hC.lrelo.top
                                                                     have q3 := fTop_0 (M := M)
                                                                     omega)))
                                                    · dsimp only [jpush]
                                                      have hr1 := rChg_rng (loan := loan) (hv := 1 + (to - fr) / 2) hC.rlaw (by omega) (by omega)
                                                      have hr2 := rChg_rng (loan := loan) (hv := 1 + (to - fr) / 2) hC.rolaw (by omega) (by omega)
                                                      first
                                                       | (exfalso; omega)
                                                       | (skip
                                                          refine e_istore (lsn := [(5, _), (0, _), (1, _), (2, _), (3, _), (4, _)]) 102 dX12_interest_100 (by decide) rfl rfl ?_
                                                          refine e_iload 104 dX12_interest_102 rfl rfl ?_
                                                          refine e_iconst 105 dX12_interest_104 rfl ?_
                                                          refine e_icmp_ne 108 113 dX12_interest_105 (by decide) (by decide) (by decide) rfl (fun h => absurd h (by decide)) (fun _ => ?_)
                                                          refine e_bipush 110 dX12_interest_108 (by decide) rfl ?_
                                                          refine e_goto 115 dX12_interest_110 (by decide) ?_
                                                          refine e_iret dX12_interest_115 ?_
                                                          first
                                                            | (exact ⟨by omega, hI⟩)
                                                            | (rw [hC.lrel.chg]
                                                               exact ⟨by omega, hI⟩)
                                                            | (rw [hC.lrelo.chg]
                                                               exact ⟨by omega, hI⟩)
                                                            | (exfalso
                                                               have q1 := hC.lrel.top
                                                               have q2 := hC.lrelo.top
                                                               have q3 := fTop_0 (M := M)
                                                               omega))))
                                        · first
                                           | (exfalso; omega)
                                           | (skip
                                              refine e_iconst 75 dX12_interest_74 rfl ?_
                                              refine e_goto 100 dX12_interest_75 (by decide) ?_
                                              refine e_istore (lsn := [(5, _), (0, _), (1, _), (2, _), (3, _), (4, _)]) 102 dX12_interest_100 (by decide) rfl rfl ?_
                                              refine e_iload 104 dX12_interest_102 rfl rfl ?_
                                              refine e_iconst 105 dX12_interest_104 rfl ?_
                                              refine e_icmp_ne 108 113 dX12_interest_105 (by decide) (by decide) (by decide) rfl (fun h => absurd h (by decide)) (fun _ => ?_)
                                              refine e_bipush 110 dX12_interest_108 (by decide) rfl ?_
                                              refine e_goto 115 dX12_interest_110 (by decide) ?_
                                              refine e_iret dX12_interest_115 ?_
                                              first
                                                | (exact ⟨by omega, hI⟩)
                                                | (rw [hC.lrel.chg]
                                                   exact ⟨by omega, hI⟩)
                                                | (rw [hC.lrelo.chg]
                                                   exact ⟨by omega, hI⟩)
                                                | (exfalso
                                                   have q1 := hC.lrel.top
                                                   have q2 := hC.lrelo.top
                                                   have q3 := fTop_0 (M := M)
                                                   omega))))
                            · dsimp only [jpush]
                              first
                               | (exfalso; omega)
                               | (skip
                                  refine e_if_ne 56 59 dX12_interest_53 (by decide) (by decide) rfl (fun h => absurd h (by decide)) (fun _ => ?_)
                                  refine e_bipush 58 dX12_interest_56 (by decide) rfl ?_
                                  refine e_iret dX12_interest_58 ?_
                                  first
                                    | (exact ⟨by omega, hI⟩)
                                    | (rw [hC.lrel.chg]
                                       exact ⟨by omega, hI⟩)
                                    | (rw [hC.lrelo.chg]
                                       exact ⟨by omega, hI⟩)
                                    | (exfalso
                                       have q1 := hC.lrel.top
                                       have q2 := hC.lrelo.top
                                       have q3 := fTop_0 (M := M)
                                       omega)))
                      · dsimp only [jpush]
                        first
                         | (exfalso; omega)
                         | (skip
                            refine e_if_eq 42 56 dX12_interest_39 (by decide) (by decide) rfl (fun _ => ?_) (fun h => absurd h (by decide))
                            refine e_bipush 58 dX12_interest_56 (by decide) rfl ?_
                            refine e_iret dX12_interest_58 ?_
                            first
                              | (exact ⟨by omega, hI⟩)
                              | (rw [hC.lrel.chg]
                                 exact ⟨by omega, hI⟩)
                              | (rw [hC.lrelo.chg]
                                 exact ⟨by omega, hI⟩)
                              | (exfalso
                                 have q1 := hC.lrel.top
                                 have q2 := hC.lrelo.top
                                 have q3 := fTop_0 (M := M)
                                 omega)))
                · dsimp only [jpush]
                  first
                   | (exfalso; omega)
                   | (skip
                      refine e_if_eq 30 56 dX12_interest_27 (by decide) (by decide) rfl (fun _ => ?_) (fun h => absurd h (by decide))
                      refine e_bipush 58 dX12_interest_56 (by decide) rfl ?_
                      refine e_iret dX12_interest_58 ?_
                      first
                        | (exact ⟨by omega, hI⟩)
                        | (rw [hC.lrel.chg]
                           exact ⟨by omega, hI⟩)
                        | (rw [hC.lrelo.chg]
                           exact ⟨by omega, hI⟩)
                        | (exfalso
                           have q1 := hC.lrel.top
                           have q2 := hC.lrelo.top
                           have q3 := fTop_0 (M := M)
                           omega)))
          · dsimp only [jpush]
            first
             | (exfalso; omega)
             | (skip
                refine e_if_ne 15 18 dX12_interest_12 (by decide) (by decide) rfl (fun h => absurd h (by decide)) (fun _ => ?_)
                refine e_bipush 17 dX12_interest_15 (by decide) rfl ?_
                refine e_iret dX12_interest_17 ?_
                first
                  | (exact ⟨by omega, hI⟩)
                  | (rw [hC.lrel.chg]
                     exact ⟨by omega, hI⟩)
                  | (rw [hC.lrelo.chg]
                     exact ⟨by omega, hI⟩)
                  | (exfalso
                     have q1 := hC.lrel.top
                     have q2 := hC.lrelo.top
                     have q3 := fTop_0 (M := M)
                     omega))
      · dsimp only [jpush]
        refine e_if_eq 30 42 dX11_interest_27 (by decide) (by decide) rfl (fun _ => ?_) (fun h => absurd h (by decide))
        refine e_bipush 44 dX11_interest_42 (by decide) rfl ?_
        refine e_iret dX11_interest_44 ?_
        refine jCt_of mt_yX12_interest (Nat.le_of_ble_eq_true rfl) (fun X2 => ?_)
        refine e_aload_n (i := 0) 1 dX12_interest_0 rfl rfl rfl ?_
        refine e_iconst 2 dX12_interest_1 rfl ?_
        refine e_put0 (j := 0) 5 fl_12_1 dX12_interest_2 at_928 rfl rfl rfl (by decide) hI.1 rfl ?_
        refine e_iload_n (i := 1) 6 dX12_interest_5 rfl rfl rfl ?_
        refine e_i2l 7 dX12_interest_6 (by omega) rfl ?_
        refine e_lconst0 8 dX12_interest_7 rfl ?_
        refine e_lconst1 9 dX12_interest_8 rfl ?_
        refine e_callS 12 mt_yX12_within ms_yX12_within wd_1390 (by decide) dX12_interest_9 rfl rfl (Nat.le_of_ble_eq_true rfl) (jroom (by decide)) rfl (m_within (by omega) (by omega) (by omega) (fun w9 => ?_) (fun w9 => ?_))
        · dsimp only [jpush]
          first
           | (exfalso; omega)
           | (skip
              refine e_if_ne 15 18 dX12_interest_12 (by decide) (by decide) rfl (fun _ => ?_) (fun h => absurd h (by decide))
              refine e_iload_n (i := 2) 19 dX12_interest_18 rfl rfl rfl ?_
              refine e_i2l 20 dX12_interest_19 (by omega) rfl ?_
              refine e_lconst1 21 dX12_interest_20 rfl ?_
              refine e_ldc2 (z := (999)) 24 (ix := 198) wd_1482 (by decide) dX12_interest_21 rfl ?_
              refine e_callS 27 mt_yX12_within ms_yX12_within wd_1390 (by decide) dX12_interest_24 rfl rfl (Nat.le_of_ble_eq_true rfl) (jroom (by decide)) rfl (m_within (by omega) (by omega) (by omega) (fun w24 => ?_) (fun w24 => ?_))
              · dsimp only [jpush]
                first
                 | (exfalso; omega)
                 | (skip
                    refine e_if_eq 30 56 dX12_interest_27 (by decide) (by decide) rfl (fun h => absurd h (by decide)) (fun _ => ?_)
                    refine e_iload_n (i := 3) 31 dX12_interest_30 rfl rfl rfl ?_
                    refine e_i2l 32 dX12_interest_31 (by omega) rfl ?_
                    refine e_lconst0 33 dX12_interest_32 rfl ?_
                    refine e_ldc2 (z := (300)) 36 (ix := 200) wd_1483 (by decide) dX12_interest_33 rfl ?_
                    refine e_callS 39 mt_yX12_within ms_yX12_within wd_1390 (by decide) dX12_interest_36 rfl rfl (Nat.le_of_ble_eq_true rfl) (jroom (by decide)) rfl (m_within (by omega) (by omega) (by omega) (fun w36 => ?_) (fun w36 => ?_))
                    · dsimp only [jpush]
                      first
                       | (exfalso; omega)
                       | (skip
                          refine e_if_eq 42 56 dX12_interest_39 (by decide) (by decide) rfl (fun h => absurd h (by decide)) (fun _ => ?_)
                          refine e_iload 44 dX12_interest_42 rfl rfl ?_
                          refine e_i2l 45 dX12_interest_44 (by omega) rfl ?_
                          refine e_iload_n (i := 3) 46 dX12_interest_45 rfl rfl rfl ?_
                          refine e_i2l 47 dX12_interest_46 (by omega) rfl ?_
                          refine e_ldc2 (z := (300)) 50 (ix := 200) wd_1483 (by decide) dX12_interest_47 rfl ?_
                          refine e_callS 53 mt_yX12_within ms_yX12_within wd_1390 (by decide) dX12_interest_50 rfl rfl (Nat.le_of_ble_eq_true rfl) (jroom (by decide)) rfl (m_within (by omega) (by omega) (by omega) (fun w50 => ?_) (fun w50 => ?_))
                          · dsimp only [jpush]
                            first
                             | (exfalso; omega)
                             | (skip
                                refine e_if_ne 56 59 dX12_interest_53 (by decide) (by decide) rfl (fun _ => ?_) (fun h => absurd h (by decide))
                                refine e_iload_n (i := 1) 60 dX12_interest_59 rfl rfl rfl ?_
                                refine e_iconst 61 dX12_interest_60 rfl ?_
                                refine e_icmp_ne 64 78 dX12_interest_61 (by omega) (by decide) (by decide) rfl (fun b61 => ?_) (fun b61 => ?_)
                                · first
                                   | (exfalso; omega)
                                   | (skip
                                      refine e_aload_n (i := 0) 79 dX12_interest_78 rfl rfl rfl ?_
                                      refine e_iload_n (i := 1) 80 dX12_interest_79 rfl rfl rfl ?_
                                      refine e_if_ne 83 87 dX12_interest_80 (by omega) (by decide) rfl (fun b80 => ?_) (fun b80 => ?_)
                                      · first
                                         | (exfalso; omega)
                                         | (skip
                                            refine e_bipush 89 dX12_interest_87 (by decide) rfl ?_
                                            refine e_iload_n (i := 2) 90 dX12_interest_89 rfl rfl rfl ?_
                                            refine e_iload 92 dX12_interest_90 rfl rfl ?_
                                            refine e_iload_n (i := 3) 93 dX12_interest_92 rfl rfl rfl ?_
                                            refine e_isub 94 dX12_interest_93 rfl ?_
                                            refine e_callS 97 mt_yX12_halvesOf ms_yX12_halvesOf wd_1484 (by decide) dX12_interest_94 rfl rfl (Nat.le_of_ble_eq_true rfl) (jroom (by decide)) rfl (m_halvesOf (by omega) ?_)
                                            dsimp only [jpush]
                                            refine e_callV 100 mt_yX12_interestBy mv_yX12_interestBy wd_1487 (by decide) dX12_interest_97 at_928 jc_12 rfl rfl rfl (Nat.le_of_ble_eq_true rfl) (jroom (by decide)) rfl (m_interestBy (by decide) (by omega) (by omega) hC.rolaw (fun w97 => ?_) (fun w97 => ?_))
                                            · dsimp only [jpush]
                                              have hr1 := rChg_rng (loan := loan) (hv := 1 + (to - fr) / 2) hC.rlaw (by omega) (by omega)
                                              have hr2 := rChg_rng (loan := loan) (hv := 1 + (to - fr) / 2) hC.rolaw (by omega) (by omega)
                                              first
                                               | (exfalso; omega)
                                               | (skip
                                                  refine e_istore (lsn := [(5, _), (0, _), (1, _), (2, _), (3, _), (4, _)]) 102 dX12_interest_100 (by decide) rfl rfl ?_
                                                  refine e_iload 104 dX12_interest_102 rfl rfl ?_
                                                  refine e_iconst 105 dX12_interest_104 rfl ?_
                                                  refine e_icmp_ne 108 113 dX12_interest_105 (by omega) (by decide) (by decide) rfl (fun b105 => ?_) (fun b105 => ?_)
                                                  · first
                                                     | (exfalso; omega)
                                                     | (skip
                                                        refine e_iload 115 dX12_interest_113 rfl rfl ?_
                                                        refine e_iret dX12_interest_115 ?_
                                                        first
                                                          | (exact ⟨by omega, hI⟩)
                                                          | (rw [hC.lrel.chg]
                                                             exact ⟨by omega, hI⟩)
                                                          | (rw [hC.lrelo.chg]
                                                             exact ⟨by omega, hI⟩)
                                                          | (exfalso
                                                             have q1 := hC.lrel.top
                                                             have q2 := hC.lrelo.top
                                                             have q3 := fTop_0 (M := M)
                                                             omega))
                                                  · first
                                                     | (exfalso; omega)
                                                     | (skip
                                                        refine e_bipush 110 dX12_interest_108 (by decide) rfl ?_
                                                        refine e_goto 115 dX12_interest_110 (by decide) ?_
                                                        refine e_iret dX12_interest_115 ?_
                                                        first
                                                          | (exact ⟨by omega, hI⟩)
                                                          | (rw [hC.lrel.chg]
                                                             exact ⟨by omega, hI⟩)
                                                          | (rw [hC.lrelo.chg]
                                                             exact ⟨by omega, hI⟩)
                                                          | (exfalso
                                                             have q1 := hC.lrel.top
                                                             have q2 := hC.lrelo.top
                                                             have q3 := fTop_0 (M := M)
                                                             omega)))
                                            · dsimp only [jpush]
                                              have hr1 := rChg_rng (loan := loan) (hv := 1 + (to - fr) / 2) hC.rlaw (by omega) (by omega)
                                              have hr2 := rChg_rng (loan := loan) (hv := 1 + (to - fr) / 2) hC.rolaw (by omega) (by omega)
                                              first
                                               | (exfalso; omega)
                                               | (skip
                                                  refine e_istore (lsn := [(5, _), (0, _), (1, _), (2, _), (3, _), (4, _)]) 102 dX12_interest_100 (by decide) rfl rfl ?_
                                                  refine e_iload 104 dX12_interest_102 rfl rfl ?_
                                                  refine e_iconst 105 dX12_interest_104 rfl ?_
                                                  refine e_icmp_ne 108 113 dX12_interest_105 (by decide) (by decide) (by decide) rfl (fun h => absurd h (by decide)) (fun _ => ?_)
                                                  refine e_bipush 110 dX12_interest_108 (by decide) rfl ?_
                                                  refine e_goto 115 dX12_interest_110 (by decide) ?_
                                                  refine e_iret dX12_interest_115 ?_
                                                  first
                                                    | (exact ⟨by omega, hI⟩)
                                                    | (rw [hC.lrel.chg]
                                                       exact ⟨by omega, hI⟩)
                                                    | (rw [hC.lrelo.chg]
                                                       exact ⟨by omega, hI⟩)
                                                    | (exfalso
                                                       have q1 := hC.lrel.top
                                                       have q2 := hC.lrelo.top
                                                       have q3 := fTop_0 (M := M)
                                                       omega)))
                                      · first
                                         | (exfalso; omega)
                                         | (skip
                                            refine e_iconst 84 dX12_interest_83 rfl ?_
                                            refine e_goto 89 dX12_interest_84 (by decide) ?_
                                            refine e_iload_n (i := 2) 90 dX12_interest_89 rfl rfl rfl ?_
                                            refine e_iload 92 dX12_interest_90 rfl rfl ?_
                                            refine e_iload_n (i := 3) 93 dX12_interest_92 rfl rfl rfl ?_
                                            refine e_isub 94 dX12_interest_93 rfl ?_
                                            refine e_callS 97 mt_yX12_halvesOf ms_yX12_halvesOf wd_1484 (by decide) dX12_interest_94 rfl rfl (Nat.le_of_ble_eq_true rfl) (jroom (by decide)) rfl (m_halvesOf (by omega) ?_)
                                            dsimp only [jpush]
                                            refine e_callV 100 mt_yX12_interestBy mv_yX12_interestBy wd_1487 (by decide) dX12_interest_97 at_928 jc_12 rfl rfl rfl (Nat.le_of_ble_eq_true rfl) (jroom (by decide)) rfl (m_interestBy (by decide) (by omega) (by omega) hC.rlaw (fun w97 => ?_) (fun w97 => ?_))
                                            · dsimp only [jpush]
                                              have hr1 := rChg_rng (loan := loan) (hv := 1 + (to - fr) / 2) hC.rlaw (by omega) (by omega)
                                              have hr2 := rChg_rng (loan := loan) (hv := 1 + (to - fr) / 2) hC.rolaw (by omega) (by omega)
                                              first
                                               | (exfalso; omega)
                                               | (skip
                                                  refine e_istore (lsn := [(5, _), (0, _), (1, _), (2, _), (3, _), (4, _)]) 102 dX12_interest_100 (by decide) rfl rfl ?_
                                                  refine e_iload 104 dX12_interest_102 rfl rfl ?_
                                                  refine e_iconst 105 dX12_interest_104 rfl ?_
                                                  refine e_icmp_ne 108 113 dX12_interest_105 (by omega) (by decide) (by decide) rfl (fun b105 => ?_) (fun b105 => ?_)
                                                  · first
                                                     | (exfalso; omega)
                                                     | (skip
                                                        refine e_iload 115 dX12_interest_113 rfl rfl ?_
                                                        refine e_iret dX12_interest_115 ?_
                                                        first
                                                          | (exact ⟨by omega, hI⟩)
                                                          | (rw [hC.lrel.chg]
                                                             exact ⟨by omega, hI⟩)
                                                          | (rw [hC.lrelo.chg]
                                                             exact ⟨by omega, hI⟩)
                                                          | (exfalso
                                                             have q1 := hC.lrel.top
                                                             have q2 := hC.lrelo.top
                                                             have q3 := fTop_0 (M := M)
                                                             omega))
                                                  · first
                                                     | (exfalso; omega)
                                                     | (skip
                                                        refine e_bipush 110 dX12_interest_108 (by decide) rfl ?_
                                                        refine e_goto 115 dX12_interest_110 (by decide) ?_
                                                        refine e_iret dX12_interest_115 ?_
                                                        first
                                                          | (exact ⟨by omega, hI⟩)
                                                          | (rw [hC.lrel.chg]
                                                             exact ⟨by omega, hI⟩)
                                                          | (rw [hC.lrelo.chg]
                                                             exact ⟨by omega, hI⟩)
                                                          | (exfalso
                                                             have q1 := hC.lrel.top
                                                             have q2 := hC.lrelo.top
                                                             have q3 := fTop_0 (M := M)
                                                             omega)))
                                            · dsimp only [jpush]
                                              have hr1 := rChg_rng (loan := loan) (hv := 1 + (to - fr) / 2) hC.rlaw (by omega) (by omega)
                                              have hr2 := rChg_rng (loan := loan) (hv := 1 + (to - fr) / 2) hC.rolaw (by omega) (by omega)
                                              first
                                               | (exfalso; omega)
                                               | (skip
                                                  refine e_istore (lsn := [(5, _), (0, _), (1, _), (2, _), (3, _), (4, _)]) 102 dX12_interest_100 (by decide) rfl rfl ?_
                                                  refine e_iload 104 dX12_interest_102 rfl rfl ?_
                                                  refine e_iconst 105 dX12_interest_104 rfl ?_
                                                  refine e_icmp_ne 108 113 dX12_interest_105 (by decide) (by decide) (by decide) rfl (fun h => absurd h (by decide)) (fun _ => ?_)
                                                  refine e_bipush 110 dX12_interest_108 (by decide) rfl ?_
                                                  refine e_goto 115 dX12_interest_110 (by decide) ?_
                                                  refine e_iret dX12_interest_115 ?_
                                                  first
                                                    | (exact ⟨by omega, hI⟩)
                                                    | (rw [hC.lrel.chg]
                                                       exact ⟨by omega, hI⟩)
                                                    | (rw [hC.lrelo.chg]
                                                       exact ⟨by omega, hI⟩)
                                                    | (exfalso
                                                       have q1 := hC.lrel.top
                                                       have q2 := hC.lrelo.top
                                                       have q3 := fTop_0 (M := M)
                                                       omega))))
                                · first
                                   | (exfalso; omega)
                                   | (skip
                                      refine e_aload_n (i := 0) 65 dX12_interest_64 rfl rfl rfl ?_
                                      refine e_getr (j := 1) 68 fl_12_13 dX12_interest_65 at_928 rfl rfl tp_928_1 rfl ?_
                                      refine e_bipush 70 dX12_interest_68 (by decide) rfl ?_
                                      refine e_iald 71 dX12_interest_70 ar_929 (by decide) (by decide) rfl (fun r70 => ?_)
                                      refine e_if_ne 74 78 dX12_interest_71 (by omega) (by decide) rfl (fun b71 => ?_) (fun b71 => ?_)
                                      · first
                                         | (exfalso; omega)
                                         | (skip
                                            refine e_aload_n (i := 0) 79 dX12_interest_78 rfl rfl rfl ?_
                                            refine e_iload_n (i := 1) 80 dX12_interest_79 rfl rfl rfl ?_
                                            refine e_if_ne 83 87 dX12_interest_80 (by omega) (by decide) rfl (fun b80 => ?_) (fun b80 => ?_)
                                            · first
                                               | (exfalso; omega)
                                               | (skip
                                                  refine e_bipush 89 dX12_interest_87 (by decide) rfl ?_
                                                  refine e_iload_n (i := 2) 90 dX12_interest_89 rfl rfl rfl ?_
                                                  refine e_iload 92 dX12_interest_90 rfl rfl ?_
                                                  refine e_iload_n (i := 3) 93 dX12_interest_92 rfl rfl rfl ?_
                                                  refine e_isub 94 dX12_interest_93 rfl ?_
                                                  refine e_callS 97 mt_yX12_halvesOf ms_yX12_halvesOf wd_1484 (by decide) dX12_interest_94 rfl rfl (Nat.le_of_ble_eq_true rfl) (jroom (by decide)) rfl (m_halvesOf (by omega) ?_)
                                                  dsimp only [jpush]
                                                  refine e_callV 100 mt_yX12_interestBy mv_yX12_interestBy wd_1487 (by decide) dX12_interest_97 at_928 jc_12 rfl rfl rfl (Nat.le_of_ble_eq_true rfl) (jroom (by decide)) rfl (m_interestBy (by decide) (by omega) (by omega) hC.rolaw (fun w97 => ?_) (fun w97 => ?_))
                                                  · dsimp only [jpush]
                                                    have hr1 := rChg_rng (loan := loan) (hv := 1 + (to - fr) / 2) hC.rlaw (by omega) (by omega)
                                                    have hr2 := rChg_rng (loan := loan) (hv := 1 + (to - fr) / 2) hC.rolaw (by omega) (by omega)
                                                    first
                                                     | (exfalso; omega)
                                                     | (skip
                                                        refine e_istore (lsn := [(5, _), (0, _), (1, _), (2, _), (3, _), (4, _)]) 102 dX12_interest_100 (by decide) rfl rfl ?_
                                                        refine e_iload 104 dX12_interest_102 rfl rfl ?_
                                                        refine e_iconst 105 dX12_interest_104 rfl ?_
                                                        refine e_icmp_ne 108 113 dX12_interest_105 (by omega) (by decide) (by decide) rfl (fun b105 => ?_) (fun b105 => ?_)
                                                        · first
                                                           | (exfalso; omega)
                                                           | (skip
                                                              refine e_iload 115 dX12_interest_113 rfl rfl ?_
                                                              refine e_iret dX12_interest_115 ?_
                                                              first
                                                                | (exact ⟨by omega, hI⟩)
                                                                | (rw [hC.lrel.chg]
                                                                   exact ⟨by omega, hI⟩)
                                                                | (rw [hC.lrelo.chg]
                                                                   exact ⟨by omega, hI⟩)
                                                                | (exfalso
                                                                   have q1 := hC.lrel.top
                                                                   have q2 := hC.lrelo.top
                                                                   have q3 := fTop_0 (M := M)
                                                                   omega))
                                                        · first
                                                           | (exfalso; omega)
                                                           | (skip
                                                              refine e_bipush 110 dX12_interest_108 (by decide) rfl ?_
                                                              refine e_goto 115 dX12_interest_110 (by decide) ?_
                                                              refine e_iret dX12_interest_115 ?_
                                                              first
                                                                | (exact ⟨by omega, hI⟩)
                                                                | (rw [hC.lrel.chg]
                                                                   exact ⟨by omega, hI⟩)
                                                                | (rw [hC.lrelo.chg]
                                                                   exact ⟨by omega, hI⟩)
                                                                | (exfalso
                                                                   have q1 := hC.lrel.top
                                                                   have q2 := hC.lrelo.top
                                                                   have q3 := fTop_0 (M := M)
                                                                   omega)))
                                                  · dsimp only [jpush]
                                                    have hr1 := rChg_rng (loan := loan) (hv := 1 + (to - fr) / 2) hC.rlaw (by omega) (by omega)
                                                    have hr2 := rChg_rng (loan := loan) (hv := 1 + (to - fr) / 2) hC.rolaw (by omega) (by omega)
                                                    first
                                                     | (exfalso; omega)
                                                     | (skip
                                                        refine e_istore (lsn := [(5, _), (0, _), (1, _), (2, _), (3, _), (4, _)]) 102 dX12_interest_100 (by decide) rfl rfl ?_
                                                        refine e_iload 104 dX12_interest_102 rfl rfl ?_
                                                        refine e_iconst 105 dX12_interest_104 rfl ?_
                                                        refine e_icmp_ne 108 113 dX12_interest_105 (by decide) (by decide) (by decide) rfl (fun h => absurd h (by decide)) (fun _ => ?_)
                                                        refine e_bipush 110 dX12_interest_108 (by decide) rfl ?_
                                                        refine e_goto 115 dX12_interest_110 (by decide) ?_
                                                        refine e_iret dX12_interest_115 ?_
                                                        first
                                                          | (exact ⟨by omega, hI⟩)
                                                          | (rw [hC.lrel.chg]
                                                             exact ⟨by omega, hI⟩)
                                                          | (rw [hC.lrelo.chg]
                                                             exact ⟨by omega, hI⟩)
                                                          | (exfalso
                                                             have q1 := hC.lrel.top
                                                             have q2 := hC.lrelo.top
                                                             have q3 := fTop_0 (M := M)
                                                             omega)))
                                            · first
                                               | (exfalso; omega)
                                               | (skip
                                                  refine e_iconst 84 dX12_interest_83 rfl ?_
                                                  refine e_goto 89 dX12_interest_84 (by decide) ?_
                                                  refine e_iload_n (i := 2) 90 dX12_interest_89 rfl rfl rfl ?_
                                                  refine e_iload 92 dX12_interest_90 rfl rfl ?_
                                                  refine e_iload_n (i := 3) 93 dX12_interest_92 rfl rfl rfl ?_
                                                  refine e_isub 94 dX12_interest_93 rfl ?_
                                                  refine e_callS 97 mt_yX12_halvesOf ms_yX12_halvesOf wd_1484 (by decide) dX12_interest_94 rfl rfl (Nat.le_of_ble_eq_true rfl) (jroom (by decide)) rfl (m_halvesOf (by omega) ?_)
                                                  dsimp only [jpush]
                                                  refine e_callV 100 mt_yX12_interestBy mv_yX12_interestBy wd_1487 (by decide) dX12_interest_97 at_928 jc_12 rfl rfl rfl (Nat.le_of_ble_eq_true rfl) (jroom (by decide)) rfl (m_interestBy (by decide) (by omega) (by omega) hC.rlaw (fun w97 => ?_) (fun w97 => ?_))
                                                  · dsimp only [jpush]
                                                    have hr1 := rChg_rng (loan := loan) (hv := 1 + (to - fr) / 2) hC.rlaw (by omega) (by omega)
                                                    have hr2 := rChg_rng (loan := loan) (hv := 1 + (to - fr) / 2) hC.rolaw (by omega) (by omega)
                                                    first
                                                     | (exfalso; omega)
                                                     | (skip
                                                        refine e_istore (lsn := [(5, _), (0, _), (1, _), (2, _), (3, _), (4, _)]) 102 dX12_interest_100 (by decide) rfl rfl ?_
                                                        refine e_iload 104 dX12_interest_102 rfl rfl ?_
                                                        refine e_iconst 105 dX12_interest_104 rfl ?_
                                                        refine e_icmp_ne 108 113 dX12_interest_105 (by omega) (by decide) (by decide) rfl (fun b105 => ?_) (fun b105 => ?_)
                                                        · first
                                                           | (exfalso; omega)
                                                           | (skip
                                                              refine e_iload 115 dX12_interest_113 rfl rfl ?_
                                                              refine e_iret dX12_interest_115 ?_
                                                              first
                                                                | (exact ⟨by omega, hI⟩)
                                                                | (rw [hC.lrel.chg]
                                                                   exact ⟨by omega, hI⟩)
                                                                | (rw [hC.lrelo.chg]
                                                                   exact ⟨by omega, hI⟩)
                                                                | (exfalso
                                                                   have q1 := hC.lrel.top
                                                                   have q2 := hC.lrelo.top
                                                                   have q3 := fTop_0 (M := M)
                                                                   omega))
                                                        · first
                                                           | (exfalso; omega)
                                                           | (skip
                                                              refine e_bipush 110 dX12_interest_108 (by decide) rfl ?_
                                                              refine e_goto 115 dX12_interest_110 (by decide) ?_
                                                              refine e_iret dX12_interest_115 ?_
                                                              first
                                                                | (exact ⟨by omega, hI⟩)
                                                                | (rw [hC.lrel.chg]
                                                                   exact ⟨by omega, hI⟩)
                                                                | (rw [hC.lrelo.chg]
                                                                   exact ⟨by omega, hI⟩)
                                                                | (exfalso
                                                                   have q1 := hC.lrel.top
                                                                   have q2 := hC.lrelo.top
                                                                   have q3 := fTop_0 (M := M)
                                                                   omega)))
                                                  · dsimp only [jpush]
                                                    have hr1 := rChg_rng (loan := loan) (hv := 1 + (to - fr) / 2) hC.rlaw (by omega) (by omega)
                                                    have hr2 := rChg_rng (loan := loan) (hv := 1 + (to - fr) / 2) hC.rolaw (by omega) (by omega)
                                                    first
                                                     | (exfalso; omega)
                                                     | (skip
                                                        refine e_istore (lsn := [(5, _), (0, _), (1, _), (2, _), (3, _), (4, _)]) 102 dX12_interest_100 (by decide) rfl rfl ?_
                                                        refine e_iload 104 dX12_interest_102 rfl rfl ?_
                                                        refine e_iconst 105 dX12_interest_104 rfl ?_
                                                        refine e_icmp_ne 108 113 dX12_interest_105 (by decide) (by decide) (by decide) rfl (fun h => absurd h (by decide)) (fun _ => ?_)
                                                        refine e_bipush 110 dX12_interest_108 (by decide) rfl ?_
                                                        refine e_goto 115 dX12_interest_110 (by decide) ?_
                                                        refine e_iret dX12_interest_115 ?_
                                                        first
                                                          | (exact ⟨by omega, hI⟩)
                                                          | (rw [hC.lrel.chg]
                                                             exact ⟨by omega, hI⟩)
                                                          | (rw [hC.lrelo.chg]
                                                             exact ⟨by omega, hI⟩)
                                                          | (exfalso
                                                             have q1 := hC.lrel.top
                                                             have q2 := hC.lrelo.top
                                                             have q3 := fTop_0 (M := M)
                                                             omega))))
                                      · first
                                         | (exfalso; omega)
                                         | (skip
                                            refine e_iconst 75 dX12_interest_74 rfl ?_
                                            refine e_goto 100 dX12_interest_75 (by decide) ?_
                                            refine e_istore (lsn := [(5, _), (0, _), (1, _), (2, _), (3, _), (4, _)]) 102 dX12_interest_100 (by decide) rfl rfl ?_
                                            refine e_iload 104 dX12_interest_102 rfl rfl ?_
                                            refine e_iconst 105 dX12_interest_104 rfl ?_
                                            refine e_icmp_ne 108 113 dX12_interest_105 (by decide) (by decide) (by decide) rfl (fun h => absurd h (by decide)) (fun _ => ?_)
                                            refine e_bipush 110 dX12_interest_108 (by decide) rfl ?_
                                            refine e_goto 115 dX12_interest_110 (by decide) ?_
                                            refine e_iret dX12_interest_115 ?_
                                            first
                                              | (exact ⟨by omega, hI⟩)
                                              | (rw [hC.lrel.chg]
                                                 exact ⟨by omega, hI⟩)
                                              | (rw [hC.lrelo.chg]
                                                 exact ⟨by omega, hI⟩)
                                              | (exfalso
                                                 have q1 := hC.lrel.top
                                                 have q2 := hC.lrelo.top
                                                 have q3 := fTop_0 (M := M)
                                                 omega))))
                          · dsimp only [jpush]
                            first
                             | (exfalso; omega)
                             | (skip
                                refine e_if_ne 56 59 dX12_interest_53 (by decide) (by decide) rfl (fun h => absurd h (by decide)) (fun _ => ?_)
                                refine e_bipush 58 dX12_interest_56 (by decide) rfl ?_
                                refine e_iret dX12_interest_58 ?_
                                first
                                  | (exact ⟨by omega, hI⟩)
                                  | (rw [hC.lrel.chg]
                                     exact ⟨by omega, hI⟩)
                                  | (rw [hC.lrelo.chg]
                                     exact ⟨by omega, hI⟩)
                                  | (exfalso
                                     have q1 := hC.lrel.top
                                     have q2 := hC.lrelo.top
                                     have q3 := fTop_0 (M := M)
                                     omega)))
                    · dsimp only [jpush]
                      first
                       | (exfalso; omega)
                       | (skip
                          refine e_if_eq 42 56 dX12_interest_39 (by decide) (by decide) rfl (fun _ => ?_) (fun h => absurd h (by decide))
                          refine e_bipush 58 dX12_interest_56 (by decide) rfl ?_
                          refine e_iret dX12_interest_58 ?_
                          first
                            | (exact ⟨by omega, hI⟩)
                            | (rw [hC.lrel.chg]
                               exact ⟨by omega, hI⟩)
                            | (rw [hC.lrelo.chg]
                               exact ⟨by omega, hI⟩)
                            | (exfalso
                               have q1 := hC.lrel.top
                               have q2 := hC.lrelo.top
                               have q3 := fTop_0 (M := M)
                               omega)))
              · dsimp only [jpush]
                first
                 | (exfalso; omega)
                 | (skip
                    refine e_if_eq 30 56 dX12_interest_27 (by decide) (by decide) rfl (fun _ => ?_) (fun h => absurd h (by decide))
                    refine e_bipush 58 dX12_interest_56 (by decide) rfl ?_
                    refine e_iret dX12_interest_58 ?_
                    first
                      | (exact ⟨by omega, hI⟩)
                      | (rw [hC.lrel.chg]
                         exact ⟨by omega, hI⟩)
                      | (rw [hC.lrelo.chg]
                         exact ⟨by omega, hI⟩)
                      | (exfalso
                         have q1 := hC.lrel.top
                         have q2 := hC.lrelo.top
                         have q3 := fTop_0 (M := M)
                         omega)))
        · dsimp only [jpush]
          first
           | (exfalso; omega)
           | (skip
              refine e_if_ne 15 18 dX12_interest_12 (by decide) (by decide) rfl (fun h => absurd h (by decide)) (fun _ => ?_)
              refine e_bipush 17 dX12_interest_15 (by decide) rfl ?_
              refine e_iret dX12_interest_17 ?_
              first
                | (exact ⟨by omega, hI⟩)
                | (rw [hC.lrel.chg]
                   exact ⟨by omega, hI⟩)
                | (rw [hC.lrelo.chg]
                   exact ⟨by omega, hI⟩)
                | (exfalso
                   have q1 := hC.lrel.top
                   have q2 := hC.lrelo.top
                   have q3 := fTop_0 (M := M)
                   omega))
    · dsimp only [jpush]
      refine e_if_eq 19 42 dX11_interest_16 (by decide) (by decide) rfl (fun _ => ?_) (fun h => absurd h (by decide))
      refine e_bipush 44 dX11_interest_42 (by decide) rfl ?_
      refine e_iret dX11_interest_44 ?_
      refine jCt_of mt_yX12_interest (Nat.le_of_ble_eq_true rfl) (fun X2 => ?_)
      refine e_aload_n (i := 0) 1 dX12_interest_0 rfl rfl rfl ?_
      refine e_iconst 2 dX12_interest_1 rfl ?_
      refine e_put0 (j := 0) 5 fl_12_1 dX12_interest_2 at_928 rfl rfl rfl (by decide) hI.1 rfl ?_
      refine e_iload_n (i := 1) 6 dX12_interest_5 rfl rfl rfl ?_
      refine e_i2l 7 dX12_interest_6 (by omega) rfl ?_
      refine e_lconst0 8 dX12_interest_7 rfl ?_
      refine e_lconst1 9 dX12_interest_8 rfl ?_
      refine e_callS 12 mt_yX12_within ms_yX12_within wd_1390 (by decide) dX12_interest_9 rfl rfl (Nat.le_of_ble_eq_true rfl) (jroom (by decide)) rfl (m_within (by omega) (by omega) (by omega) (fun w9 => ?_) (fun w9 => ?_))
      · dsimp only [jpush]
        first
         | (exfalso; omega)
         | (skip
            refine e_if_ne 15 18 dX12_interest_12 (by decide) (by decide) rfl (fun _ => ?_) (fun h => absurd h (by decide))
            refine e_iload_n (i := 2) 19 dX12_interest_18 rfl rfl rfl ?_
            refine e_i2l 20 dX12_interest_19 (by omega) rfl ?_
            refine e_lconst1 21 dX12_interest_20 rfl ?_
            refine e_ldc2 (z := (999)) 24 (ix := 198) wd_1482 (by decide) dX12_interest_21 rfl ?_
            refine e_callS 27 mt_yX12_within ms_yX12_within wd_1390 (by decide) dX12_interest_24 rfl rfl (Nat.le_of_ble_eq_true rfl) (jroom (by decide)) rfl (m_within (by omega) (by omega) (by omega) (fun w24 => ?_) (fun w24 => ?_))
            · dsimp only [jpush]
              first
               | (exfalso; omega)
               | (skip
                  refine e_if_eq 30 56 dX12_interest_27 (by decide) (by decide) rfl (fun h => absurd h (by decide)) (fun _ => ?_)
                  refine e_iload_n (i := 3) 31 dX12_interest_30 rfl rfl rfl ?_
                  refine e_i2l 32 dX12_interest_31 (by omega) rfl ?_
                  refine e_lconst0 33 dX12_interest_32 rfl ?_
                  refine e_ldc2 (z := (300)) 36 (ix := 200) wd_1483 (by decide) dX12_interest_33 rfl ?_
                  refine e_callS 39 mt_yX12_within ms_yX12_within wd_1390 (by decide) dX12_interest_36 rfl rfl (Nat.le_of_ble_eq_true rfl) (jroom (by decide)) rfl (m_within (by omega) (by omega) (by omega) (fun w36 => ?_) (fun w36 => ?_))
                  · dsimp only [jpush]
                    first
                     | (exfalso; omega)
                     | (skip
                        refine e_if_eq 42 56 dX12_interest_39 (by decide) (by decide) rfl (fun h => absurd h (by decide)) (fun _ => ?_)
                        refine e_iload 44 dX12_interest_42 rfl rfl ?_
                        refine e_i2l 45 dX12_interest_44 (by omega) rfl ?_
                        refine e_iload_n (i := 3) 46 dX12_interest_45 rfl rfl rfl ?_
                        refine e_i2l 47 dX12_interest_46 (by omega) rfl ?_
                        refine e_ldc2 (z := (300)) 50 (ix := 200) wd_1483 (by decide) dX12_interest_47 rfl ?_
                        refine e_callS 53 mt_yX12_within ms_yX12_within wd_1390 (by decide) dX12_interest_50 rfl rfl (Nat.le_of_ble_eq_true rfl) (jroom (by decide)) rfl (m_within (by omega) (by omega) (by omega) (fun w50 => ?_) (fun w50 => ?_))
                        · dsimp only [jpush]
                          first
                           | (exfalso; omega)
                           | (skip
                              refine e_if_ne 56 59 dX12_interest_53 (by decide) (by decide) rfl (fun _ => ?_) (fun h => absurd h (by decide))
                              refine e_iload_n (i := 1) 60 dX12_interest_59 rfl rfl rfl ?_
                              refine e_iconst 61 dX12_interest_60 rfl ?_
                              refine e_icmp_ne 64 78 dX12_interest_61 (by omega) (by decide) (by decide) rfl (fun b61 => ?_) (fun b61 => ?_)
                              · first
                                 | (exfalso; omega)
                                 | (skip
                                    refine e_aload_n (i := 0) 79 dX12_interest_78 rfl rfl rfl ?_
                                    refine e_iload_n (i := 1) 80 dX12_interest_79 rfl rfl rfl ?_
                                    refine e_if_ne 83 87 dX12_interest_80 (by omega) (by decide) rfl (fun b80 => ?_) (fun b80 => ?_)
                                    · first
                                       | (exfalso; omega)
                                       | (skip
                                          refine e_bipush 89 dX12_interest_87 (by decide) rfl ?_
                                          refine e_iload_n (i := 2) 90 dX12_interest_89 rfl rfl rfl ?_
                                          refine e_iload 92 dX12_interest_90 rfl rfl ?_
                                          refine e_iload_n (i := 3) 93 dX12_interest_92 rfl rfl rfl ?_
                                          refine e_isub 94 dX12_interest_93 rfl ?_
                                          refine e_callS 97 mt_yX12_halvesOf ms_yX12_halvesOf wd_1484 (by decide) dX12_interest_94 rfl rfl (Nat.le_of_ble_eq_true rfl) (jroom (by decide)) rfl (m_halvesOf (by omega) ?_)
                                          dsimp only [jpush]
                                          refine e_callV 100 mt_yX12_interestBy mv_yX12_interestBy wd_1487 (by decide) dX12_interest_97 at_928 jc_12 rfl rfl rfl (Nat.le_of_ble_eq_true rfl) (jroom (by decide)) rfl (m_interestBy (by decide) (by omega) (by omega) hC.rolaw (fun w97 => ?_) (fun w97 => ?_))
                                          · dsimp only [jpush]
                                            have hr1 := rChg_rng (loan := loan) (hv := 1 + (to - fr) / 2) hC.rlaw (by omega) (by omega)
                                            have hr2 := rChg_rng (loan := loan) (hv := 1 + (to - fr) / 2) hC.rolaw (by omega) (by omega)
                                            first
                                             | (exfalso; omega)
                                             | (skip
                                                refine e_istore (lsn := [(5, _), (0, _), (1, _), (2, _), (3, _), (4, _)]) 102 dX12_interest_100 (by decide) rfl rfl ?_
                                                refine e_iload 104 dX12_interest_102 rfl rfl ?_
                                                refine e_iconst 105 dX12_interest_104 rfl ?_
                                                refine e_icmp_ne 108 113 dX12_interest_105 (by omega) (by decide) (by decide) rfl (fun b105 => ?_) (fun b105 => ?_)
                                                · first
                                                   | (exfalso; omega)
                                                   | (skip
                                                      refine e_iload 115 dX12_interest_113 rfl rfl ?_
                                                      refine e_iret dX12_interest_115 ?_
                                                      first
                                                        | (exact ⟨by omega, hI⟩)
                                                        | (rw [hC.lrel.chg]
                                                           exact ⟨by omega, hI⟩)
                                                        | (rw [hC.lrelo.chg]
                                                           exact ⟨by omega, hI⟩)
                                                        | (exfalso
                                                           have q1 := hC.lrel.top
                                                           have q2 := hC.lrelo.top
                                                           have q3 := fTop_0 (M := M)
                                                           omega))
                                                · first
                                                   | (exfalso; omega)
                                                   | (skip
                                                      refine e_bipush 110 dX12_interest_108 (by decide) rfl ?_
                                                      refine e_goto 115 dX12_interest_110 (by decide) ?_
                                                      refine e_iret dX12_interest_115 ?_
                                                      first
                                                        | (exact ⟨by omega, hI⟩)
                                                        | (rw [hC.lrel.chg]
                                                           exact ⟨by omega, hI⟩)
                                                        | (rw [hC.lrelo.chg]
                                                           exact ⟨by omega, hI⟩)
                                                        | (exfalso
                                                           have q1 := hC.lrel.top
                                                           have q2 := hC.lrelo.top
                                                           have q3 := fTop_0 (M := M)
                                                           omega)))
                                          · dsimp only [jpush]
                                            have hr1 := rChg_rng (loan := loan) (hv := 1 + (to - fr) / 2) hC.rlaw (by omega) (by omega)
                                            have hr2 := rChg_rng (loan := loan) (hv := 1 + (to - fr) / 2) hC.rolaw (by omega) (by omega)
                                            first
                                             | (exfalso; omega)
                                             | (skip
                                                refine e_istore (lsn := [(5, _), (0, _), (1, _), (2, _), (3, _), (4, _)]) 102 dX12_interest_100 (by decide) rfl rfl ?_
                                                refine e_iload 104 dX12_interest_102 rfl rfl ?_
                                                refine e_iconst 105 dX12_interest_104 rfl ?_
                                                refine e_icmp_ne 108 113 dX12_interest_105 (by decide) (by decide) (by decide) rfl (fun h => absurd h (by decide)) (fun _ => ?_)
                                                refine e_bipush 110 dX12_interest_108 (by decide) rfl ?_
                                                refine e_goto 115 dX12_interest_110 (by decide) ?_
                                                refine e_iret dX12_interest_115 ?_
                                                first
                                                  | (exact ⟨by omega, hI⟩)
                                                  | (rw [hC.lrel.chg]
                                                     exact ⟨by omega, hI⟩)
                                                  | (rw [hC.lrelo.chg]
                                                     exact ⟨by omega, hI⟩)
                                                  | (exfalso
                                                     have q1 := hC.lrel.top
                                                     have q2 := hC.lrelo.top
                                                     have q3 := fTop_0 (M := M)
                                                     omega)))
                                    · first
                                       | (exfalso; omega)
                                       | (skip
                                          refine e_iconst 84 dX12_interest_83 rfl ?_
                                          refine e_goto 89 dX12_interest_84 (by decide) ?_
                                          refine e_iload_n (i := 2) 90 dX12_interest_89 rfl rfl rfl ?_
                                          refine e_iload 92 dX12_interest_90 rfl rfl ?_
                                          refine e_iload_n (i := 3) 93 dX12_interest_92 rfl rfl rfl ?_
                                          refine e_isub 94 dX12_interest_93 rfl ?_
                                          refine e_callS 97 mt_yX12_halvesOf ms_yX12_halvesOf wd_1484 (by decide) dX12_interest_94 rfl rfl (Nat.le_of_ble_eq_true rfl) (jroom (by decide)) rfl (m_halvesOf (by omega) ?_)
                                          dsimp only [jpush]
                                          refine e_callV 100 mt_yX12_interestBy mv_yX12_interestBy wd_1487 (by decide) dX12_interest_97 at_928 jc_12 rfl rfl rfl (Nat.le_of_ble_eq_true rfl) (jroom (by decide)) rfl (m_interestBy (by decide) (by omega) (by omega) hC.rlaw (fun w97 => ?_) (fun w97 => ?_))
                                          · dsimp only [jpush]
                                            have hr1 := rChg_rng (loan := loan) (hv := 1 + (to - fr) / 2) hC.rlaw (by omega) (by omega)
                                            have hr2 := rChg_rng (loan := loan) (hv := 1 + (to - fr) / 2) hC.rolaw (by omega) (by omega)
                                            first
                                             | (exfalso; omega)
                                             | (skip
                                                refine e_istore (lsn := [(5, _), (0, _), (1, _), (2, _), (3, _), (4, _)]) 102 dX12_interest_100 (by decide) rfl rfl ?_
                                                refine e_iload 104 dX12_interest_102 rfl rfl ?_
                                                refine e_iconst 105 dX12_interest_104 rfl ?_
                                                refine e_icmp_ne 108 113 dX12_interest_105 (by omega) (by decide) (by decide) rfl (fun b105 => ?_) (fun b105 => ?_)
                                                · first
                                                   | (exfalso; omega)
                                                   | (skip
                                                      refine e_iload 115 dX12_interest_113 rfl rfl ?_
                                                      refine e_iret dX12_interest_115 ?_
                                                      first
                                                        | (exact ⟨by omega, hI⟩)
                                                        | (rw [hC.lrel.chg]
                                                           exact ⟨by omega, hI⟩)
                                                        | (rw [hC.lrelo.chg]
                                                           exact ⟨by omega, hI⟩)
                                                        | (exfalso
                                                           have q1 := hC.lrel.top
                                                           have q2 := hC.lrelo.top
                                                           have q3 := fTop_0 (M := M)
                                                           omega))
                                                · first
                                                   | (exfalso; omega)
                                                   | (skip
                                                      refine e_bipush 110 dX12_interest_108 (by decide) rfl ?_
                                                      refine e_goto 115 dX12_interest_110 (by decide) ?_
                                                      refine e_iret dX12_interest_115 ?_
                                                      first
                                                        | (exact ⟨by omega, hI⟩)
                                                        | (rw [hC.lrel.chg]
                                                           exact ⟨by omega, hI⟩)
                                                        | (rw [hC.lrelo.chg]
                                                           exact ⟨by omega, hI⟩)
                                                        | (exfalso
                                                           have q1 := hC.lrel.top
                                                           have q2 := hC.lrelo.top
                                                           have q3 := fTop_0 (M := M)
                                                           omega)))
                                          · dsimp only [jpush]
                                            have hr1 := rChg_rng (loan := loan) (hv := 1 + (to - fr) / 2) hC.rlaw (by omega) (by omega)
                                            have hr2 := rChg_rng (loan := loan) (hv := 1 + (to - fr) / 2) hC.rolaw (by omega) (by omega)
                                            first
                                             | (exfalso; omega)
                                             | (skip
                                                refine e_istore (lsn := [(5, _), (0, _), (1, _), (2, _), (3, _), (4, _)]) 102 dX12_interest_100 (by decide) rfl rfl ?_
                                                refine e_iload 104 dX12_interest_102 rfl rfl ?_
                                                refine e_iconst 105 dX12_interest_104 rfl ?_
                                                refine e_icmp_ne 108 113 dX12_interest_105 (by decide) (by decide) (by decide) rfl (fun h => absurd h (by decide)) (fun _ => ?_)
                                                refine e_bipush 110 dX12_interest_108 (by decide) rfl ?_
                                                refine e_goto 115 dX12_interest_110 (by decide) ?_
                                                refine e_iret dX12_interest_115 ?_
                                                first
                                                  | (exact ⟨by omega, hI⟩)
                                                  | (rw [hC.lrel.chg]
                                                     exact ⟨by omega, hI⟩)
                                                  | (rw [hC.lrelo.chg]
                                                     exact ⟨by omega, hI⟩)
                                                  | (exfalso
                                                     have q1 := hC.lrel.top
                                                     have q2 := hC.lrelo.top
                                                     have q3 := fTop_0 (M := M)
                                                     omega))))
                              · first
                                 | (exfalso; omega)
                                 | (skip
                                    refine e_aload_n (i := 0) 65 dX12_interest_64 rfl rfl rfl ?_
                                    refine e_getr (j := 1) 68 fl_12_13 dX12_interest_65 at_928 rfl rfl tp_928_1 rfl ?_
                                    refine e_bipush 70 dX12_interest_68 (by decide) rfl ?_
                                    refine e_iald 71 dX12_interest_70 ar_929 (by decide) (by decide) rfl (fun r70 => ?_)
                                    refine e_if_ne 74 78 dX12_interest_71 (by omega) (by decide) rfl (fun b71 => ?_) (fun b71 => ?_)
                                    · first
                                       | (exfalso; omega)
                                       | (skip
                                          refine e_aload_n (i := 0) 79 dX12_interest_78 rfl rfl rfl ?_
                                          refine e_iload_n (i := 1) 80 dX12_interest_79 rfl rfl rfl ?_
                                          refine e_if_ne 83 87 dX12_interest_80 (by omega) (by decide) rfl (fun b80 => ?_) (fun b80 => ?_)
                                          · first
                                             | (exfalso; omega)
                                             | (skip
                                                refine e_bipush 89 dX12_interest_87 (by decide) rfl ?_
                                                refine e_iload_n (i := 2) 90 dX12_interest_89 rfl rfl rfl ?_
                                                refine e_iload 92 dX12_interest_90 rfl rfl ?_
                                                refine e_iload_n (i := 3) 93 dX12_interest_92 rfl rfl rfl ?_
                                                refine e_isub 94 dX12_interest_93 rfl ?_
                                                refine e_callS 97 mt_yX12_halvesOf ms_yX12_halvesOf wd_1484 (by decide) dX12_interest_94 rfl rfl (Nat.le_of_ble_eq_true rfl) (jroom (by decide)) rfl (m_halvesOf (by omega) ?_)
                                                dsimp only [jpush]
                                                refine e_callV 100 mt_yX12_interestBy mv_yX12_interestBy wd_1487 (by decide) dX12_interest_97 at_928 jc_12 rfl rfl rfl (Nat.le_of_ble_eq_true rfl) (jroom (by decide)) rfl (m_interestBy (by decide) (by omega) (by omega) hC.rolaw (fun w97 => ?_) (fun w97 => ?_))
                                                · dsimp only [jpush]
                                                  have hr1 := rChg_rng (loan := loan) (hv := 1 + (to - fr) / 2) hC.rlaw (by omega) (by omega)
                                                  have hr2 := rChg_rng (loan := loan) (hv := 1 + (to - fr) / 2) hC.rolaw (by omega) (by omega)
                                                  first
                                                   | (exfalso; omega)
                                                   | (skip
                                                      refine e_istore (lsn := [(5, _), (0, _), (1, _), (2, _), (3, _), (4, _)]) 102 dX12_interest_100 (by decide) rfl rfl ?_
                                                      refine e_iload 104 dX12_interest_102 rfl rfl ?_
                                                      refine e_iconst 105 dX12_interest_104 rfl ?_
                                                      refine e_icmp_ne 108 113 dX12_interest_105 (by omega) (by decide) (by decide) rfl (fun b105 => ?_) (fun b105 => ?_)
                                                      · first
                                                         | (exfalso; omega)
                                                         | (skip
                                                            refine e_iload 115 dX12_interest_113 rfl rfl ?_
                                                            refine e_iret dX12_interest_115 ?_
                                                            first
                                                              | (exact ⟨by omega, hI⟩)
                                                              | (rw [hC.lrel.chg]
                                                                 exact ⟨by omega, hI⟩)
                                                              | (rw [hC.lrelo.chg]
                                                                 exact ⟨by omega, hI⟩)
                                                              | (exfalso
                                                                 have q1 := hC.lrel.top
                                                                 have q2 := hC.lrelo.top
                                                                 have q3 := fTop_0 (M := M)
                                                                 omega))
                                                      · first
                                                         | (exfalso; omega)
                                                         | (skip
                                                            refine e_bipush 110 dX12_interest_108 (by decide) rfl ?_
                                                            refine e_goto 115 dX12_interest_110 (by decide) ?_
                                                            refine e_iret dX12_interest_115 ?_
                                                            first
                                                              | (exact ⟨by omega, hI⟩)
                                                              | (rw [hC.lrel.chg]
                                                                 exact ⟨by omega, hI⟩)
                                                              | (rw [hC.lrelo.chg]
                                                                 exact ⟨by omega, hI⟩)
                                                              | (exfalso
                                                                 have q1 := hC.lrel.top
                                                                 have q2 := hC.lrelo.top
                                                                 have q3 := fTop_0 (M := M)
                                                                 omega)))
                                                · dsimp only [jpush]
                                                  have hr1 := rChg_rng (loan := loan) (hv := 1 + (to - fr) / 2) hC.rlaw (by omega) (by omega)
                                                  have hr2 := rChg_rng (loan := loan) (hv := 1 + (to - fr) / 2) hC.rolaw (by omega) (by omega)
                                                  first
                                                   | (exfalso; omega)
                                                   | (skip
                                                      refine e_istore (lsn := [(5, _), (0, _), (1, _), (2, _), (3, _), (4, _)]) 102 dX12_interest_100 (by decide) rfl rfl ?_
                                                      refine e_iload 104 dX12_interest_102 rfl rfl ?_
                                                      refine e_iconst 105 dX12_interest_104 rfl ?_
                                                      refine e_icmp_ne 108 113 dX12_interest_105 (by decide) (by decide) (by decide) rfl (fun h => absurd h (by decide)) (fun _ => ?_)
                                                      refine e_bipush 110 dX12_interest_108 (by decide) rfl ?_
                                                      refine e_goto 115 dX12_interest_110 (by decide) ?_
                                                      refine e_iret dX12_interest_115 ?_
                                                      first
                                                        | (exact ⟨by omega, hI⟩)
                                                        | (rw [hC.lrel.chg]
                                                           exact ⟨by omega, hI⟩)
                                                        | (rw [hC.lrelo.chg]
                                                           exact ⟨by omega, hI⟩)
                                                        | (exfalso
                                                           have q1 := hC.lrel.top
                                                           have q2 := hC.lrelo.top
                                                           have q3 := fTop_0 (M := M)
                                                           omega)))
                                          · first
                                             | (exfalso; omega)
                                             | (skip
                                                refine e_iconst 84 dX12_interest_83 rfl ?_
                                                refine e_goto 89 dX12_interest_84 (by decide) ?_
                                                refine e_iload_n (i := 2) 90 dX12_interest_89 rfl rfl rfl ?_
                                                refine e_iload 92 dX12_interest_90 rfl rfl ?_
                                                refine e_iload_n (i := 3) 93 dX12_interest_92 rfl rfl rfl ?_
                                                refine e_isub 94 dX12_interest_93 rfl ?_
                                                refine e_callS 97 mt_yX12_halvesOf ms_yX12_halvesOf wd_1484 (by decide) dX12_interest_94 rfl rfl (Nat.le_of_ble_eq_true rfl) (jroom (by decide)) rfl (m_halvesOf (by omega) ?_)
                                                dsimp only [jpush]
                                                refine e_callV 100 mt_yX12_interestBy mv_yX12_interestBy wd_1487 (by decide) dX12_interest_97 at_928 jc_12 rfl rfl rfl (Nat.le_of_ble_eq_true rfl) (jroom (by decide)) rfl (m_interestBy (by decide) (by omega) (by omega) hC.rlaw (fun w97 => ?_) (fun w97 => ?_))
                                                · dsimp only [jpush]
                                                  have hr1 := rChg_rng (loan := loan) (hv := 1 + (to - fr) / 2) hC.rlaw (by omega) (by omega)
                                                  have hr2 := rChg_rng (loan := loan) (hv := 1 + (to - fr) / 2) hC.rolaw (by omega) (by omega)
                                                  first
                                                   | (exfalso; omega)
                                                   | (skip
                                                      refine e_istore (lsn := [(5, _), (0, _), (1, _), (2, _), (3, _), (4, _)]) 102 dX12_interest_100 (by decide) rfl rfl ?_
                                                      refine e_iload 104 dX12_interest_102 rfl rfl ?_
                                                      refine e_iconst 105 dX12_interest_104 rfl ?_
                                                      refine e_icmp_ne 108 113 dX12_interest_105 (by omega) (by decide) (by decide) rfl (fun b105 => ?_) (fun b105 => ?_)
                                                      · first
                                                         | (exfalso; omega)
                                                         | (skip
                                                            refine e_iload 115 dX12_interest_113 rfl rfl ?_
                                                            refine e_iret dX12_interest_115 ?_
                                                            first
                                                              | (exact ⟨by omega, hI⟩)
                                                              | (rw [hC.lrel.chg]
                                                                 exact ⟨by omega, hI⟩)
                                                              | (rw [hC.lrelo.chg]
                                                                 exact ⟨by omega, hI⟩)
                                                              | (exfalso
                                                                 have q1 := hC.lrel.top
                                                                 have q2 := hC.lrelo.top
                                                                 have q3 := fTop_0 (M := M)
                                                                 omega))
                                                      · first
                                                         | (exfalso; omega)
                                                         | (skip
                                                            refine e_bipush 110 dX12_interest_108 (by decide) rfl ?_
                                                            refine e_goto 115 dX12_interest_110 (by decide) ?_
                                                            refine e_iret dX12_interest_115 ?_
                                                            first
                                                              | (exact ⟨by omega, hI⟩)
                                                              | (rw [hC.lrel.chg]
                                                                 exact ⟨by omega, hI⟩)
                                                              | (rw [hC.lrelo.chg]
                                                                 exact ⟨by omega, hI⟩)
                                                              | (exfalso
                                                                 have q1 := hC.lrel.top
                                                                 have q2 := hC.lrelo.top
                                                                 have q3 := fTop_0 (M := M)
                                                                 omega)))
                                                · dsimp only [jpush]
                                                  have hr1 := rChg_rng (loan := loan) (hv := 1 + (to - fr) / 2) hC.rlaw (by omega) (by omega)
                                                  have hr2 := rChg_rng (loan := loan) (hv := 1 + (to - fr) / 2) hC.rolaw (by omega) (by omega)
                                                  first
                                                   | (exfalso; omega)
                                                   | (skip
                                                      refine e_istore (lsn := [(5, _), (0, _), (1, _), (2, _), (3, _), (4, _)]) 102 dX12_interest_100 (by decide) rfl rfl ?_
                                                      refine e_iload 104 dX12_interest_102 rfl rfl ?_
                                                      refine e_iconst 105 dX12_interest_104 rfl ?_
                                                      refine e_icmp_ne 108 113 dX12_interest_105 (by decide) (by decide) (by decide) rfl (fun h => absurd h (by decide)) (fun _ => ?_)
                                                      refine e_bipush 110 dX12_interest_108 (by decide) rfl ?_
                                                      refine e_goto 115 dX12_interest_110 (by decide) ?_
                                                      refine e_iret dX12_interest_115 ?_
                                                      first
                                                        | (exact ⟨by omega, hI⟩)
                                                        | (rw [hC.lrel.chg]
                                                           exact ⟨by omega, hI⟩)
                                                        | (rw [hC.lrelo.chg]
                                                           exact ⟨by omega, hI⟩)
                                                        | (exfalso
                                                           have q1 := hC.lrel.top
                                                           have q2 := hC.lrelo.top
                                                           have q3 := fTop_0 (M := M)
                                                           omega))))
                                    · first
                                       | (exfalso; omega)
                                       | (skip
                                          refine e_iconst 75 dX12_interest_74 rfl ?_
                                          refine e_goto 100 dX12_interest_75 (by decide) ?_
                                          refine e_istore (lsn := [(5, _), (0, _), (1, _), (2, _), (3, _), (4, _)]) 102 dX12_interest_100 (by decide) rfl rfl ?_
                                          refine e_iload 104 dX12_interest_102 rfl rfl ?_
                                          refine e_iconst 105 dX12_interest_104 rfl ?_
                                          refine e_icmp_ne 108 113 dX12_interest_105 (by decide) (by decide) (by decide) rfl (fun h => absurd h (by decide)) (fun _ => ?_)
                                          refine e_bipush 110 dX12_interest_108 (by decide) rfl ?_
                                          refine e_goto 115 dX12_interest_110 (by decide) ?_
                                          refine e_iret dX12_interest_115 ?_
                                          first
                                            | (exact ⟨by omega, hI⟩)
                                            | (rw [hC.lrel.chg]
                                               exact ⟨by omega, hI⟩)
                                            | (rw [hC.lrelo.chg]
                                               exact ⟨by omega, hI⟩)
                                            | (exfalso
                                               have q1 := hC.lrel.top
                                               have q2 := hC.lrelo.top
                                               have q3 := fTop_0 (M := M)
                                               omega))))
                        · dsimp only [jpush]
                          first
                           | (exfalso; omega)
                           | (skip
                              refine e_if_ne 56 59 dX12_interest_53 (by decide) (by decide) rfl (fun h => absurd h (by decide)) (fun _ => ?_)
                              refine e_bipush 58 dX12_interest_56 (by decide) rfl ?_
                              refine e_iret dX12_interest_58 ?_
                              first
                                | (exact ⟨by omega, hI⟩)
                                | (rw [hC.lrel.chg]
                                   exact ⟨by omega, hI⟩)
                                | (rw [hC.lrelo.chg]
                                   exact ⟨by omega, hI⟩)
                                | (exfalso
                                   have q1 := hC.lrel.top
                                   have q2 := hC.lrelo.top
                                   have q3 := fTop_0 (M := M)
                                   omega)))
                  · dsimp only [jpush]
                    first
                     | (exfalso; omega)
                     | (skip
                        refine e_if_eq 42 56 dX12_interest_39 (by decide) (by decide) rfl (fun _ => ?_) (fun h => absurd h (by decide))
                        refine e_bipush 58 dX12_interest_56 (by decide) rfl ?_
                        refine e_iret dX12_interest_58 ?_
                        first
                          | (exact ⟨by omega, hI⟩)
                          | (rw [hC.lrel.chg]
                             exact ⟨by omega, hI⟩)
                          | (rw [hC.lrelo.chg]
                             exact ⟨by omega, hI⟩)
                          | (exfalso
                             have q1 := hC.lrel.top
                             have q2 := hC.lrelo.top
                             have q3 := fTop_0 (M := M)
                             omega)))
            · dsimp only [jpush]
              first
               | (exfalso; omega)
               | (skip
                  refine e_if_eq 30 56 dX12_interest_27 (by decide) (by decide) rfl (fun _ => ?_) (fun h => absurd h (by decide))
                  refine e_bipush 58 dX12_interest_56 (by decide) rfl ?_
                  refine e_iret dX12_interest_58 ?_
                  first
                    | (exact ⟨by omega, hI⟩)
                    | (rw [hC.lrel.chg]
                       exact ⟨by omega, hI⟩)
                    | (rw [hC.lrelo.chg]
                       exact ⟨by omega, hI⟩)
                    | (exfalso
                       have q1 := hC.lrel.top
                       have q2 := hC.lrelo.top
                       have q3 := fTop_0 (M := M)
                       omega)))
      · dsimp only [jpush]
        first
         | (exfalso; omega)
         | (skip
            refine e_if_ne 15 18 dX12_interest_12 (by decide) (by decide) rfl (fun h => absurd h (by decide)) (fun _ => ?_)
            refine e_bipush 17 dX12_interest_15 (by decide) rfl ?_
            refine e_iret dX12_interest_17 ?_
            first
              | (exact ⟨by omega, hI⟩)
              | (rw [hC.lrel.chg]
                 exact ⟨by omega, hI⟩)
              | (rw [hC.lrelo.chg]
                 exact ⟨by omega, hI⟩)
              | (exfalso
                 have q1 := hC.lrel.top
                 have q2 := hC.lrelo.top
                 have q3 := fTop_0 (M := M)
                 omega))
  · skip
    refine e_iload_n (i := 1) 5 dX11_interest_4 rfl rfl rfl ?_
    refine e_iconst 6 dX11_interest_5 rfl ?_
    refine e_icmp_eq 9 12 dX11_interest_6 (by omega) (by decide) (by decide) rfl (fun b6 => ?_) (fun b6 => ?_)
    · skip
      refine e_iload_n (i := 2) 13 dX11_interest_12 rfl rfl rfl ?_
      refine e_callS 16 mt_yX11_isLoan ms_yX11_isLoan wd_727 (by decide) dX11_interest_13 rfl rfl (Nat.le_of_ble_eq_true rfl) (jroom (by decide)) rfl (c_isLoan (by omega) (fun w13 => ?_) (fun w13 => ?_))
      · dsimp only [jpush]
        refine e_if_eq 19 42 dX11_interest_16 (by decide) (by decide) rfl (fun h => absurd h (by decide)) (fun _ => ?_)
        refine e_iload_n (i := 3) 20 dX11_interest_19 rfl rfl rfl ?_
        refine e_iconst 21 dX11_interest_20 rfl ?_
        refine e_sipush 24 dX11_interest_21 (by decide) rfl ?_
        refine e_callS 27 mt_yX11_within ms_yX11_within wd_531 (by decide) dX11_interest_24 rfl rfl (Nat.le_of_ble_eq_true rfl) (jroom (by decide)) rfl (c_within (by omega) (by omega) (by omega) (fun w24 => ?_) (fun w24 => ?_))
        · dsimp only [jpush]
          refine e_if_eq 30 42 dX11_interest_27 (by decide) (by decide) rfl (fun h => absurd h (by decide)) (fun _ => ?_)
          refine e_iload 32 dX11_interest_30 rfl rfl ?_
          refine e_iload_n (i := 3) 33 dX11_interest_32 rfl rfl rfl ?_
          refine e_sipush 36 dX11_interest_33 (by decide) rfl ?_
          refine e_callS 39 mt_yX11_within ms_yX11_within wd_531 (by decide) dX11_interest_36 rfl rfl (Nat.le_of_ble_eq_true rfl) (jroom (by decide)) rfl (c_within (by omega) (by omega) (by omega) (fun w36 => ?_) (fun w36 => ?_))
          · dsimp only [jpush]
            refine e_if_ne 42 45 dX11_interest_39 (by decide) (by decide) rfl (fun _ => ?_) (fun h => absurd h (by decide))
            refine e_iload_n (i := 1) 46 dX11_interest_45 rfl rfl rfl ?_
            refine e_if_ne 49 59 dX11_interest_46 (by omega) (by decide) rfl (fun b46 => ?_) (fun b46 => ?_)
            · skip
              refine e_aload_n (i := 0) 60 dX11_interest_59 rfl rfl rfl ?_
              refine e_getr (j := 0) 63 fl_11_10 dX11_interest_60 at_0 rfl rfl tp_0_0 rfl ?_
              refine e_getr (j := 1) 66 fl_11_102 dX11_interest_63 at_1 rfl rfl tp_1_1 rfl ?_
              refine e_astore (lsn := [(5, _), (0, _), (1, _), (2, _), (3, _), (4, _)]) 68 dX11_interest_66 (by decide) rfl rfl ?_
              refine e_aload 70 dX11_interest_68 rfl rfl ?_
              refine e_iload_n (i := 2) 71 dX11_interest_70 rfl rfl rfl ?_
              refine e_callV 74 mt_yX1_lends mv_yX1_lends wd_730 (by decide) dX11_interest_71 at_7 jc_1 rfl rfl rfl (Nat.le_of_ble_eq_true rfl) (jroom (by decide)) rfl (c_lends (by omega) lw_7 hC.lrelo.ok (fun w71 => ?_) (fun w71 => ?_))
              · dsimp only [jpush]
                refine e_if_ne 77 80 dX11_interest_74 (by decide) (by decide) rfl (fun _ => ?_) (fun h => absurd h (by decide))
                refine e_aload 82 dX11_interest_80 rfl rfl ?_
                refine e_iload_n (i := 2) 83 dX11_interest_82 rfl rfl rfl ?_
                refine e_iload_n (i := 3) 84 dX11_interest_83 rfl rfl rfl ?_
                refine e_iload 86 dX11_interest_84 rfl rfl ?_
                refine e_callS 89 mt_yX1_halves ms_yX1_halves wd_735 (by decide) dX11_interest_86 rfl rfl (Nat.le_of_ble_eq_true rfl) (jroom (by decide)) rfl (c_halves (by omega) ?_)
                dsimp only [jpush]
                refine e_callV 92 mt_yX1_charge mv_yX1_charge wd_738 (by decide) dX11_interest_89 at_7 jc_1 rfl rfl rfl (Nat.le_of_ble_eq_true rfl) (jroom (by decide)) rfl (c_charge (by omega) (by omega) lw_7 hC.lrelo.ok ?_)
                dsimp only [jpush]
                refine e_iret dX11_interest_92 ?_
                refine jCt_of mt_yX12_interest (Nat.le_of_ble_eq_true rfl) (fun X2 => ?_)
                refine e_aload_n (i := 0) 1 dX12_interest_0 rfl rfl rfl ?_
                refine e_iconst 2 dX12_interest_1 rfl ?_
                refine e_put0 (j := 0) 5 fl_12_1 dX12_interest_2 at_928 rfl rfl rfl (by decide) hI.1 rfl ?_
                refine e_iload_n (i := 1) 6 dX12_interest_5 rfl rfl rfl ?_
                refine e_i2l 7 dX12_interest_6 (by omega) rfl ?_
                refine e_lconst0 8 dX12_interest_7 rfl ?_
                refine e_lconst1 9 dX12_interest_8 rfl ?_
                refine e_callS 12 mt_yX12_within ms_yX12_within wd_1390 (by decide) dX12_interest_9 rfl rfl (Nat.le_of_ble_eq_true rfl) (jroom (by decide)) rfl (m_within (by omega) (by omega) (by omega) (fun w9 => ?_) (fun w9 => ?_))
                · dsimp only [jpush]
                  first
                   | (exfalso; omega)
                   | (skip
                      refine e_if_ne 15 18 dX12_interest_12 (by decide) (by decide) rfl (fun _ => ?_) (fun h => absurd h (by decide))
                      refine e_iload_n (i := 2) 19 dX12_interest_18 rfl rfl rfl ?_
                      refine e_i2l 20 dX12_interest_19 (by omega) rfl ?_
                      refine e_lconst1 21 dX12_interest_20 rfl ?_
                      refine e_ldc2 (z := (999)) 24 (ix := 198) wd_1482 (by decide) dX12_interest_21 rfl ?_
                      refine e_callS 27 mt_yX12_within ms_yX12_within wd_1390 (by decide) dX12_interest_24 rfl rfl (Nat.le_of_ble_eq_true rfl) (jroom (by decide)) rfl (m_within (by omega) (by omega) (by omega) (fun w24 => ?_) (fun w24 => ?_))
                      · dsimp only [jpush]
                        first
                         | (exfalso; omega)
                         | (skip
                            refine e_if_eq 30 56 dX12_interest_27 (by decide) (by decide) rfl (fun h => absurd h (by decide)) (fun _ => ?_)
                            refine e_iload_n (i := 3) 31 dX12_interest_30 rfl rfl rfl ?_
                            refine e_i2l 32 dX12_interest_31 (by omega) rfl ?_
                            refine e_lconst0 33 dX12_interest_32 rfl ?_
                            refine e_ldc2 (z := (300)) 36 (ix := 200) wd_1483 (by decide) dX12_interest_33 rfl ?_
                            refine e_callS 39 mt_yX12_within ms_yX12_within wd_1390 (by decide) dX12_interest_36 rfl rfl (Nat.le_of_ble_eq_true rfl) (jroom (by decide)) rfl (m_within (by omega) (by omega) (by omega) (fun w36 => ?_) (fun w36 => ?_))
                            · dsimp only [jpush]
                              first
                               | (exfalso; omega)
                               | (skip
                                  refine e_if_eq 42 56 dX12_interest_39 (by decide) (by decide) rfl (fun h => absurd h (by decide)) (fun _ => ?_)
                                  refine e_iload 44 dX12_interest_42 rfl rfl ?_
                                  refine e_i2l 45 dX12_interest_44 (by omega) rfl ?_
                                  refine e_iload_n (i := 3) 46 dX12_interest_45 rfl rfl rfl ?_
                                  refine e_i2l 47 dX12_interest_46 (by omega) rfl ?_
                                  refine e_ldc2 (z := (300)) 50 (ix := 200) wd_1483 (by decide) dX12_interest_47 rfl ?_
                                  refine e_callS 53 mt_yX12_within ms_yX12_within wd_1390 (by decide) dX12_interest_50 rfl rfl (Nat.le_of_ble_eq_true rfl) (jroom (by decide)) rfl (m_within (by omega) (by omega) (by omega) (fun w50 => ?_) (fun w50 => ?_))
                                  · dsimp only [jpush]
                                    first
                                     | (exfalso; omega)
                                     | (skip
                                        refine e_if_ne 56 59 dX12_interest_53 (by decide) (by decide) rfl (fun _ => ?_) (fun h => absurd h (by decide))
                                        refine e_iload_n (i := 1) 60 dX12_interest_59 rfl rfl rfl ?_
                                        refine e_iconst 61 dX12_interest_60 rfl ?_
                                        refine e_icmp_ne 64 78 dX12_interest_61 (by omega) (by decide) (by decide) rfl (fun b61 => ?_) (fun b61 => ?_)
                                        · first
                                           | (exfalso; omega)
                                           | (skip
                                              refine e_aload_n (i := 0) 79 dX12_interest_78 rfl rfl rfl ?_
                                              refine e_iload_n (i := 1) 80 dX12_interest_79 rfl rfl rfl ?_
                                              refine e_if_ne 83 87 dX12_interest_80 (by omega) (by decide) rfl (fun b80 => ?_) (fun b80 => ?_)
                                              · first
                                                 | (exfalso; omega)
                                                 | (skip
                                                    refine e_bipush 89 dX12_interest_87 (by decide) rfl ?_
                                                    refine e_iload_n (i := 2) 90 dX12_interest_89 rfl rfl rfl ?_
                                                    refine e_iload 92 dX12_interest_90 rfl rfl ?_
                                                    refine e_iload_n (i := 3) 93 dX12_interest_92 rfl rfl rfl ?_
                                                    refine e_isub 94 dX12_interest_93 rfl ?_
                                                    refine e_callS 97 mt_yX12_halvesOf ms_yX12_halvesOf wd_1484 (by decide) dX12_interest_94 rfl rfl (Nat.le_of_ble_eq_true rfl) (jroom (by decide)) rfl (m_halvesOf (by omega) ?_)
                                                    dsimp only [jpush]
                                                    refine e_callV 100 mt_yX12_interestBy mv_yX12_interestBy wd_1487 (by decide) dX12_interest_97 at_928 jc_12 rfl rfl rfl (Nat.le_of_ble_eq_true rfl) (jroom (by decide)) rfl (m_interestBy (by decide) (by omega) (by omega) hC.rolaw (fun w97 => ?_) (fun w97 => ?_))
                                                    · dsimp only [jpush]
                                                      have hr1 := rChg_rng (loan := loan) (hv := 1 + (to - fr) / 2) hC.rlaw (by omega) (by omega)
                                                      have hr2 := rChg_rng (loan := loan) (hv := 1 + (to - fr) / 2) hC.rolaw (by omega) (by omega)
                                                      first
                                                       | (exfalso; omega)
                                                       | (skip
                                                          refine e_istore (lsn := [(5, _), (0, _), (1, _), (2, _), (3, _), (4, _)]) 102 dX12_interest_100 (by decide) rfl rfl ?_
                                                          refine e_iload 104 dX12_interest_102 rfl rfl ?_
                                                          refine e_iconst 105 dX12_interest_104 rfl ?_
                                                          refine e_icmp_ne 108 113 dX12_interest_105 (by omega) (by decide) (by decide) rfl (fun b105 => ?_) (fun b105 => ?_)
                                                          · first
                                                             | (exfalso; omega)
                                                             | (skip
                                                                refine e_iload 115 dX12_interest_113 rfl rfl ?_
                                                                refine e_iret dX12_interest_115 ?_
                                                                first
                                                                  | (exact ⟨by omega, hI⟩)
                                                                  | (rw [hC.lrel.chg]
                                                                     exact ⟨by omega, hI⟩)
                                                                  | (rw [hC.lrelo.chg]
                                                                     exact ⟨by omega, hI⟩)
                                                                  | (exfalso
                                                                     have q1 := hC.lrel.top
                                                                     have q2 := hC.lrelo.top
                                                                     have q3 := fTop_0 (M := M)
                                                                     omega))
                                                          · first
                                                             | (exfalso; omega)
                                                             | (skip
                                                                refine e_bipush 110 dX12_interest_108 (by decide) rfl ?_
                                                                refine e_goto 115 dX12_interest_110 (by decide) ?_
                                                                refine e_iret dX12_interest_115 ?_
                                                                first
                                                                  | (exact ⟨by omega, hI⟩)
                                                                  | (rw [hC.lrel.chg]
                                                                     exact ⟨by omega, hI⟩)
                                                                  | (rw [hC.lrelo.chg]
                                                                     exact ⟨by omega, hI⟩)
                                                                  | (exfalso
                                                                     have q1 := hC.lrel.top
                                                                     have q2 := hC.lrelo.top
                                                                     have q3 := fTop_0 (M := M)
                                                                     omega)))
                                                    · dsimp only [jpush]
                                                      have hr1 := rChg_rng (loan := loan) (hv := 1 + (to - fr) / 2) hC.rlaw (by omega) (by omega)
                                                      have hr2 := rChg_rng (loan := loan) (hv := 1 + (to - fr) / 2) hC.rolaw (by omega) (by omega)
                                                      first
                                                       | (exfalso; omega)
                                                       | (skip
                                                          refine e_istore (lsn := [(5, _), (0, _), (1, _), (2, _), (3, _), (4, _)]) 102 dX12_interest_100 (by decide) rfl rfl ?_
                                                          refine e_iload 104 dX12_interest_102 rfl rfl ?_
                                                          refine e_iconst 105 dX12_interest_104 rfl ?_
                                                          refine e_icmp_ne 108 113 dX12_interest_105 (by decide) (by decide) (by decide) rfl (fun h => absurd h (by decide)) (fun _ => ?_)
                                                          refine e_bipush 110 dX12_interest_108 (by decide) rfl ?_
                                                          refine e_goto 115 dX12_interest_110 (by decide) ?_
                                                          refine e_iret dX12_interest_115 ?_
                                                          first
                                                            | (exact ⟨by omega, hI⟩)
                                                            | (rw [hC.lrel.chg]
                                                               exact ⟨by omega, hI⟩)
                                                            | (rw [hC.lrelo.chg]
                                                               exact ⟨by omega, hI⟩)
                                                            | (exfalso
                                                               have q1 := hC.lrel.top
                                                               have q2 := hC.lrelo.top
                                                               have q3 := fTop_0 (M := M)
                                                               omega)))
                                              · first
                                                 | (exfalso; omega)
                                                 | (skip
                                                    refine e_iconst 84 dX12_interest_83 rfl ?_
                                                    refine e_goto 89 dX12_interest_84 (by decide) ?_
                                                    refine e_iload_n (i := 2) 90 dX12_interest_89 rfl rfl rfl ?_
                                                    refine e_iload 92 dX12_interest_90 rfl rfl ?_
                                                    refine e_iload_n (i := 3) 93 dX12_interest_92 rfl rfl rfl ?_
                                                    refine e_isub 94 dX12_interest_93 rfl ?_
                                                    refine e_callS 97 mt_yX12_halvesOf ms_yX12_halvesOf wd_1484 (by decide) dX12_interest_94 rfl rfl (Nat.le_of_ble_eq_true rfl) (jroom (by decide)) rfl (m_halvesOf (by omega) ?_)
                                                    dsimp only [jpush]
                                                    refine e_callV 100 mt_yX12_interestBy mv_yX12_interestBy wd_1487 (by decide) dX12_interest_97 at_928 jc_12 rfl rfl rfl (Nat.le_of_ble_eq_true rfl) (jroom (by decide)) rfl (m_interestBy (by decide) (by omega) (by omega) hC.rlaw (fun w97 => ?_) (fun w97 => ?_))
                                                    · dsimp only [jpush]
                                                      have hr1 := rChg_rng (loan := loan) (hv := 1 + (to - fr) / 2) hC.rlaw (by omega) (by omega)
                                                      have hr2 := rChg_rng (loan := loan) (hv := 1 + (to - fr) / 2) hC.rolaw (by omega) (by omega)
                                                      first
                                                       | (exfalso; omega)
                                                       | (skip
                                                          refine e_istore (lsn := [(5, _), (0, _), (1, _), (2, _), (3, _), (4, _)]) 102 dX12_interest_100 (by decide) rfl rfl ?_
                                                          refine e_iload 104 dX12_interest_102 rfl rfl ?_
                                                          refine e_iconst 105 dX12_interest_104 rfl ?_
                                                          refine e_icmp_ne 108 113 dX12_interest_105 (by omega) (by decide) (by decide) rfl (fun b105 => ?_) (fun b105 => ?_)
                                                          · first
                                                             | (exfalso; omega)
                                                             | (skip
                                                                refine e_iload 115 dX12_interest_113 rfl rfl ?_
                                                                refine e_iret dX12_interest_115 ?_
                                                                first
                                                                  | (exact ⟨by omega, hI⟩)
                                                                  | (rw [hC.lrel.chg]
                                                                     exact ⟨by omega, hI⟩)
                                                                  | (rw [hC.lrelo.chg]
                                                                     exact ⟨by omega, hI⟩)
                                                                  | (exfalso
                                                                     have q1 := hC.lrel.top
                                                                     have q2 := hC.lrelo.top
                                                                     have q3 := fTop_0 (M := M)
                                                                     omega))
                                                          · first
                                                             | (exfalso; omega)
                                                             | (skip
                                                                refine e_bipush 110 dX12_interest_108 (by decide) rfl ?_
                                                                refine e_goto 115 dX12_interest_110 (by decide) ?_
                                                                refine e_iret dX12_interest_115 ?_
                                                                first
                                                                  | (exact ⟨by omega, hI⟩)
                                                                  | (rw [hC.lrel.chg]
                                                                     exact ⟨by omega, hI⟩)
                                                                  | (rw [hC.lrelo.chg]
                                                                     exact ⟨by omega, hI⟩)
                                                                  | (exfalso
                                                                     have q1 := hC.lrel.top
                                                                     have q2 := hC.lrelo.top
                                                                     have q3 := fTop_0 (M := M)
                                                                     omega)))
                                                    · dsimp only [jpush]
                                                      have hr1 := rChg_rng (loan := loan) (hv := 1 + (to - fr) / 2) hC.rlaw (by omega) (by omega)
                                                      have hr2 := rChg_rng (loan := loan) (hv := 1 + (to - fr) / 2) hC.rolaw (by omega) (by omega)
                                                      first
                                                       | (exfalso; omega)
                                                       | (skip
                                                          refine e_istore (lsn := [(5, _), (0, _), (1, _), (2, _), (3, _), (4, _)]) 102 dX12_interest_100 (by decide) rfl rfl ?_
                                                          refine e_iload 104 dX12_interest_102 rfl rfl ?_
                                                          refine e_iconst 105 dX12_interest_104 rfl ?_
                                                          refine e_icmp_ne 108 113 dX12_interest_105 (by decide) (by decide) (by decide) rfl (fun h => absurd h (by decide)) (fun _ => ?_)
                                                          refine e_bipush 110 dX12_interest_108 (by decide) rfl ?_
                                                          refine e_goto 115 dX12_interest_110 (by decide) ?_
                                                          refine e_iret dX12_interest_115 ?_
                                                          first
                                                            | (exact ⟨by omega, hI⟩)
                                                            | (rw [hC.lrel.chg]
                                                               exact ⟨by omega, hI⟩)
                                                            | (rw [hC.lrelo.chg]
                                                               exact ⟨by omega, hI⟩)
                                                            | (exfalso
                                                               have q1 := hC.lrel.top
                                                               have q2 := hC.lrelo.top
                                                               have q3 := fTop_0 (M := M)
                                                               omega))))
                                        · first
                                           | (exfalso; omega)
                                           | (skip
                                              refine e_aload_n (i := 0) 65 dX12_interest_64 rfl rfl rfl ?_
                                              refine e_getr (j := 1) 68 fl_12_13 dX12_interest_65 at_928 rfl rfl tp_928_1 rfl ?_
                                              refine e_bipush 70 dX12_interest_68 (by decide) rfl ?_
                                              refine e_iald 71 dX12_interest_70 ar_929 (by decide) (by decide) rfl (fun r70 => ?_)
                                              refine e_if_ne 74 78 dX12_interest_71 (by omega) (by decide) rfl (fun b71 => ?_) (fun b71 => ?_)
                                              · first
                                                 | (exfalso; omega)
                                                 | (skip
                                                    refine e_aload_n (i := 0) 79 dX12_interest_78 rfl rfl rfl ?_
                                                    refine e_iload_n (i := 1) 80 dX12_interest_79 rfl rfl rfl ?_
                                                    refine e_if_ne 83 87 dX12_interest_80 (by omega) (by decide) rfl (fun b80 => ?_) (fun b80 => ?_)
                                                    · first
                                                       | (exfalso; omega)
                                                       | (skip
                                                          refine e_bipush 89 dX12_interest_87 (by decide) rfl ?_
                                                          refine e_iload_n (i := 2) 90 dX12_interest_89 rfl rfl rfl ?_
                                                          refine e_iload 92 dX12_interest_90 rfl rfl ?_
                                                          refine e_iload_n (i := 3) 93 dX12_interest_92 rfl rfl rfl ?_
                                                          refine e_isub 94 dX12_interest_93 rfl ?_
                                                          refine e_callS 97 mt_yX12_halvesOf ms_yX12_halvesOf wd_1484 (by decide) dX12_interest_94 rfl rfl (Nat.le_of_ble_eq_true rfl) (jroom (by decide)) rfl (m_halvesOf (by omega) ?_)
                                                          dsimp only [jpush]
                                                          refine e_callV 100 mt_yX12_interestBy mv_yX12_interestBy wd_1487 (by decide) dX12_interest_97 at_928 jc_12 rfl rfl rfl (Nat.le_of_ble_eq_true rfl) (jroom (by decide)) rfl (m_interestBy (by decide) (by omega) (by omega) hC.rolaw (fun w97 => ?_) (fun w97 => ?_))
                                                          · dsimp only [jpush]
                                                            have hr1 := rChg_rng (loan := loan) (hv := 1 + (to - fr) / 2) hC.rlaw (by omega) (by omega)
                                                            have hr2 := rChg_rng (loan := loan) (hv := 1 + (to - fr) / 2) hC.rolaw (by omega) (by omega)
                                                            first
                                                             | (exfalso; omega)
                                                             | (skip
                                                                refine e_istore (lsn := [(5, _), (0, _), (1, _), (2, _), (3, _), (4, _)]) 102 dX12_interest_100 (by decide) rfl rfl ?_
                                                                refine e_iload 104 dX12_interest_102 rfl rfl ?_
                                                                refine e_iconst 105 dX12_interest_104 rfl ?_
                                                                refine e_icmp_ne 108 113 dX12_interest_105 (by omega) (by decide) (by decide) rfl (fun b105 => ?_) (fun b105 => ?_)
                                                                · first
                                                                   | (exfalso; omega)
                                                                   | (skip
                                                                      refine e_iload 115 dX12_interest_113 rfl rfl ?_
                                                                      refine e_iret dX12_interest_115 ?_
                                                                      first
                                                                        | (exact ⟨by omega, hI⟩)
                                                                        | (rw [hC.lrel.chg]
                                                                           exact ⟨by omega, hI⟩)
                                                                        | (rw [hC.lrelo.chg]
                                                                           exact ⟨by omega, hI⟩)
                                                                        | (exfalso
                                                                           have q1 := hC.lrel.top
                                                                           have q2 := hC.lrelo.top
                                                                           have q3 := fTop_0 (M := M)
                                                                           omega))
                                                                · first
                                                                   | (exfalso; omega)
                                                                   | (skip
                                                                      refine e_bipush 110 dX12_interest_108 (by decide) rfl ?_
                                                                      refine e_goto 115 dX12_interest_110 (by decide) ?_
                                                                      refine e_iret dX12_interest_115 ?_
                                                                      first
                                                                        | (exact ⟨by omega, hI⟩)
                                                                        | (rw [hC.lrel.chg]
                                                                           exact ⟨by omega, hI⟩)
                                                                        | (rw [hC.lrelo.chg]
                                                                           exact ⟨by omega, hI⟩)
                                                                        | (exfalso
                                                                           have q1 := hC.lrel.top
                                                                           have q2 := hC.lrelo.top
                                                                           have q3 := fTop_0 (M := M)
                                                                           omega)))
                                                          · dsimp only [jpush]
                                                            have hr1 := rChg_rng (loan := loan) (hv := 1 + (to - fr) / 2) hC.rlaw (by omega) (by omega)
                                                            have hr2 := rChg_rng (loan := loan) (hv := 1 + (to - fr) / 2) hC.rolaw (by omega) (by omega)
                                                            first
                                                             | (exfalso; omega)
                                                             | (skip
                                                                refine e_istore (lsn := [(5, _), (0, _), (1, _), (2, _), (3, _), (4, _)]) 102 dX12_interest_100 (by decide) rfl rfl ?_
                                                                refine e_iload 104 dX12_interest_102 rfl rfl ?_
                                                                refine e_iconst 105 dX12_interest_104 rfl ?_
                                                                refine e_icmp_ne 108 113 dX12_interest_105 (by decide) (by decide) (by decide) rfl (fun h => absurd h (by decide)) (fun _ => ?_)
                                                                refine e_bipush 110 dX12_interest_108 (by decide) rfl ?_
                                                                refine e_goto 115 dX12_interest_110 (by decide) ?_
                                                                refine e_iret dX12_interest_115 ?_
                                                                first
                                                                  | (exact ⟨by omega, hI⟩)
                                                                  | (rw [hC.lrel.chg]
                                                                     exact ⟨by omega, hI⟩)
                                                                  | (rw [hC.lrelo.chg]
                                                                     exact ⟨by omega, hI⟩)
                                                                  | (exfalso
                                                                     have q1 := hC.lrel.top
                                                                     have q2 := hC.lrelo.top
                                                                     have q3 := fTop_0 (M := M)
                                                                     omega)))
                                                    · first
                                                       | (exfalso; omega)
                                                       | (skip
                                                          refine e_iconst 84 dX12_interest_83 rfl ?_
                                                          refine e_goto 89 dX12_interest_84 (by decide) ?_
                                                          refine e_iload_n (i := 2) 90 dX12_interest_89 rfl rfl rfl ?_
                                                          refine e_iload 92 dX12_interest_90 rfl rfl ?_
                                                          refine e_iload_n (i := 3) 93 dX12_interest_92 rfl rfl rfl ?_
                                                          refine e_isub 94 dX12_interest_93 rfl ?_
                                                          refine e_callS 97 mt_yX12_halvesOf ms_yX12_halvesOf wd_1484 (by decide) dX12_interest_94 rfl rfl (Nat.le_of_ble_eq_true rfl) (jroom (by decide)) rfl (m_halvesOf (by omega) ?_)
                                                          dsimp only [jpush]
                                                          refine e_callV 100 mt_yX12_interestBy mv_yX12_interestBy wd_1487 (by decide) dX12_interest_97 at_928 jc_12 rfl rfl rfl (Nat.le_of_ble_eq_true rfl) (jroom (by decide)) rfl (m_interestBy (by decide) (by omega) (by omega) hC.rlaw (fun w97 => ?_) (fun w97 => ?_))
                                                          · dsimp only [jpush]
                                                            have hr1 := rChg_rng (loan := loan) (hv := 1 + (to - fr) / 2) hC.rlaw (by omega) (by omega)
                                                            have hr2 := rChg_rng (loan := loan) (hv := 1 + (to - fr) / 2) hC.rolaw (by omega) (by omega)
                                                            first
                                                             | (exfalso; omega)
                                                             | (skip
                                                                refine e_istore (lsn := [(5, _), (0, _), (1, _), (2, _), (3, _), (4, _)]) 102 dX12_interest_100 (by decide) rfl rfl ?_
                                                                refine e_iload 104 dX12_interest_102 rfl rfl ?_
                                                                refine e_iconst 105 dX12_interest_104 rfl ?_
                                                                refine e_icmp_ne 108 113 dX12_interest_105 (by omega) (by decide) (by decide) rfl (fun b105 => ?_) (fun b105 => ?_)
                                                                · first
                                                                   | (exfalso; omega)
                                                                   | (skip
                                                                      refine e_iload 115 dX12_interest_113 rfl rfl ?_
                                                                      refine e_iret dX12_interest_115 ?_
                                                                      first
                                                                        | (exact ⟨by omega, hI⟩)
                                                                        | (rw [hC.lrel.chg]
                                                                           exact ⟨by omega, hI⟩)
                                                                        | (rw [hC.lrelo.chg]
                                                                           exact ⟨by omega, hI⟩)
                                                                        | (exfalso
                                                                           have q1 := hC.lrel.top
                                                                           have q2 := hC.lrelo.top
                                                                           have q3 := fTop_0 (M := M)
                                                                           omega))
                                                                · first
                                                                   | (exfalso; omega)
                                                                   | (skip
                                                                      refine e_bipush 110 dX12_interest_108 (by decide) rfl ?_
                                                                      refine e_goto 115 dX12_interest_110 (by decide) ?_
                                                                      refine e_iret dX12_interest_115 ?_
                                                                      first
                                                                        | (exact ⟨by omega, hI⟩)
                                                                        | (rw [hC.lrel.chg]
                                                                           exact ⟨by omega, hI⟩)
                                                                        | (rw [hC.lrelo.chg]
                                                                           exact ⟨by omega, hI⟩)
                                                                        | (exfalso
                                                                           have q1 := hC.lrel.top
                                                                           have q2 := hC.lrelo.top
                                                                           have q3 := fTop_0 (M := M)
                                                                           omega)))
                                                          · dsimp only [jpush]
                                                            have hr1 := rChg_rng (loan := loan) (hv := 1 + (to - fr) / 2) hC.rlaw (by omega) (by omega)
                                                            have hr2 := rChg_rng (loan := loan) (hv := 1 + (to - fr) / 2) hC.rolaw (by omega) (by omega)
                                                            first
                                                             | (exfalso; omega)
                                                             | (skip
                                                                refine e_istore (lsn := [(5, _), (0, _), (1, _), (2, _), (3, _), (4, _)]) 102 dX12_interest_100 (by decide) rfl rfl ?_
                                                                refine e_iload 104 dX12_interest_102 rfl rfl ?_
                                                                refine e_iconst 105 dX12_interest_104 rfl ?_
                                                                refine e_icmp_ne 108 113 dX12_interest_105 (by decide) (by decide) (by decide) rfl (fun h => absurd h (by decide)) (fun _ => ?_)
                                                                refine e_bipush 110 dX12_interest_108 (by decide) rfl ?_
                                                                refine e_goto 115 dX12_interest_110 (by decide) ?_
                                                                refine e_iret dX12_interest_115 ?_
                                                                first
                                                                  | (exact ⟨by omega, hI⟩)
                                                                  | (rw [hC.lrel.chg]
                                                                     exact ⟨by omega, hI⟩)
                                                                  | (rw [hC.lrelo.chg]
                                                                     exact ⟨by omega, hI⟩)
                                                                  | (exfalso
                                                                     have q1 := hC.lrel.top
                                                                     have q2 := hC.lrelo.top
                                                                     have q3 := fTop_0 (M := M)
                                                                     omega))))
                                              · first
                                                 | (exfalso; omega)
                                                 | (skip
                                                    refine e_iconst 75 dX12_interest_74 rfl ?_
                                                    refine e_goto 100 dX12_interest_75 (by decide) ?_
                                                    refine e_istore (lsn := [(5, _), (0, _), (1, _), (2, _), (3, _), (4, _)]) 102 dX12_interest_100 (by decide) rfl rfl ?_
                                                    refine e_iload 104 dX12_interest_102 rfl rfl ?_
                                                    refine e_iconst 105 dX12_interest_104 rfl ?_
                                                    refine e_icmp_ne 108 113 dX12_interest_105 (by decide) (by decide) (by decide) rfl (fun h => absurd h (by decide)) (fun _ => ?_)
                                                    refine e_bipush 110 dX12_interest_108 (by decide) rfl ?_
                                                    refine e_goto 115 dX12_interest_110 (by decide) ?_
                                                    refine e_iret dX12_interest_115 ?_
                                                    first
                                                      | (exact ⟨by omega, hI⟩)
                                                      | (rw [hC.lrel.chg]
                                                         exact ⟨by omega, hI⟩)
                                                      | (rw [hC.lrelo.chg]
                                                         exact ⟨by omega, hI⟩)
                                                      | (exfalso
                                                         have q1 := hC.lrel.top
                                                         have q2 := hC.lrelo.top
                                                         have q3 := fTop_0 (M := M)
                                                         omega))))
                                  · dsimp only [jpush]
                                    first
                                     | (exfalso; omega)
                                     | (skip
                                        refine e_if_ne 56 59 dX12_interest_53 (by decide) (by decide) rfl (fun h => absurd h (by decide)) (fun _ => ?_)
                                        refine e_bipush 58 dX12_interest_56 (by decide) rfl ?_
                                        refine e_iret dX12_interest_58 ?_
                                        first
                                          | (exact ⟨by omega, hI⟩)
                                          | (rw [hC.lrel.chg]
                                             exact ⟨by omega, hI⟩)
                                          | (rw [hC.lrelo.chg]
                                             exact ⟨by omega, hI⟩)
                                          | (exfalso
                                             have q1 := hC.lrel.top
                                             have q2 := hC.lrelo.top
                                             have q3 := fTop_0 (M := M)
                                             omega)))
                            · dsimp only [jpush]
                              first
                               | (exfalso; omega)
                               | (skip
                                  refine e_if_eq 42 56 dX12_interest_39 (by decide) (by decide) rfl (fun _ => ?_) (fun h => absurd h (by decide))
                                  refine e_bipush 58 dX12_interest_56 (by decide) rfl ?_
                                  refine e_iret dX12_interest_58 ?_
                                  first
                                    | (exact ⟨by omega, hI⟩)
                                    | (rw [hC.lrel.chg]
                                       exact ⟨by omega, hI⟩)
                                    | (rw [hC.lrelo.chg]
                                       exact ⟨by omega, hI⟩)
                                    | (exfalso
                                       have q1 := hC.lrel.top
                                       have q2 := hC.lrelo.top
                                       have q3 := fTop_0 (M := M)
                                       omega)))
                      · dsimp only [jpush]
                        first
                         | (exfalso; omega)
                         | (skip
                            refine e_if_eq 30 56 dX12_interest_27 (by decide) (by decide) rfl (fun _ => ?_) (fun h => absurd h (by decide))
                            refine e_bipush 58 dX12_interest_56 (by decide) rfl ?_
                            refine e_iret dX12_interest_58 ?_
                            first
                              | (exact ⟨by omega, hI⟩)
                              | (rw [hC.lrel.chg]
                                 exact ⟨by omega, hI⟩)
                              | (rw [hC.lrelo.chg]
                                 exact ⟨by omega, hI⟩)
                              | (exfalso
                                 have q1 := hC.lrel.top
                                 have q2 := hC.lrelo.top
                                 have q3 := fTop_0 (M := M)
                                 omega)))
                · dsimp only [jpush]
                  first
                   | (exfalso; omega)
                   | (skip
                      refine e_if_ne 15 18 dX12_interest_12 (by decide) (by decide) rfl (fun h => absurd h (by decide)) (fun _ => ?_)
                      refine e_bipush 17 dX12_interest_15 (by decide) rfl ?_
                      refine e_iret dX12_interest_17 ?_
                      first
                        | (exact ⟨by omega, hI⟩)
                        | (rw [hC.lrel.chg]
                           exact ⟨by omega, hI⟩)
                        | (rw [hC.lrelo.chg]
                           exact ⟨by omega, hI⟩)
                        | (exfalso
                           have q1 := hC.lrel.top
                           have q2 := hC.lrelo.top
                           have q3 := fTop_0 (M := M)
                           omega))
              · dsimp only [jpush]
                refine e_if_ne 77 80 dX11_interest_74 (by decide) (by decide) rfl (fun h => absurd h (by decide)) (fun _ => ?_)
                refine e_bipush 79 dX11_interest_77 (by decide) rfl ?_
                refine e_iret dX11_interest_79 ?_
                refine jCt_of mt_yX12_interest (Nat.le_of_ble_eq_true rfl) (fun X2 => ?_)
                refine e_aload_n (i := 0) 1 dX12_interest_0 rfl rfl rfl ?_
                refine e_iconst 2 dX12_interest_1 rfl ?_
                refine e_put0 (j := 0) 5 fl_12_1 dX12_interest_2 at_928 rfl rfl rfl (by decide) hI.1 rfl ?_
                refine e_iload_n (i := 1) 6 dX12_interest_5 rfl rfl rfl ?_
                refine e_i2l 7 dX12_interest_6 (by omega) rfl ?_
                refine e_lconst0 8 dX12_interest_7 rfl ?_
                refine e_lconst1 9 dX12_interest_8 rfl ?_
                refine e_callS 12 mt_yX12_within ms_yX12_within wd_1390 (by decide) dX12_interest_9 rfl rfl (Nat.le_of_ble_eq_true rfl) (jroom (by decide)) rfl (m_within (by omega) (by omega) (by omega) (fun w9 => ?_) (fun w9 => ?_))
                · dsimp only [jpush]
                  first
                   | (exfalso; omega)
                   | (skip
                      refine e_if_ne 15 18 dX12_interest_12 (by decide) (by decide) rfl (fun _ => ?_) (fun h => absurd h (by decide))
                      refine e_iload_n (i := 2) 19 dX12_interest_18 rfl rfl rfl ?_
                      refine e_i2l 20 dX12_interest_19 (by omega) rfl ?_
                      refine e_lconst1 21 dX12_interest_20 rfl ?_
                      refine e_ldc2 (z := (999)) 24 (ix := 198) wd_1482 (by decide) dX12_interest_21 rfl ?_
                      refine e_callS 27 mt_yX12_within ms_yX12_within wd_1390 (by decide) dX12_interest_24 rfl rfl (Nat.le_of_ble_eq_true rfl) (jroom (by decide)) rfl (m_within (by omega) (by omega) (by omega) (fun w24 => ?_) (fun w24 => ?_))
                      · dsimp only [jpush]
                        first
                         | (exfalso; omega)
                         | (skip
                            refine e_if_eq 30 56 dX12_interest_27 (by decide) (by decide) rfl (fun h => absurd h (by decide)) (fun _ => ?_)
                            refine e_iload_n (i := 3) 31 dX12_interest_30 rfl rfl rfl ?_
                            refine e_i2l 32 dX12_interest_31 (by omega) rfl ?_
                            refine e_lconst0 33 dX12_interest_32 rfl ?_
                            refine e_ldc2 (z := (300)) 36 (ix := 200) wd_1483 (by decide) dX12_interest_33 rfl ?_
                            refine e_callS 39 mt_yX12_within ms_yX12_within wd_1390 (by decide) dX12_interest_36 rfl rfl (Nat.le_of_ble_eq_true rfl) (jroom (by decide)) rfl (m_within (by omega) (by omega) (by omega) (fun w36 => ?_) (fun w36 => ?_))
                            · dsimp only [jpush]
                              first
                               | (exfalso; omega)
                               | (skip
                                  refine e_if_eq 42 56 dX12_interest_39 (by decide) (by decide) rfl (fun h => absurd h (by decide)) (fun _ => ?_)
                                  refine e_iload 44 dX12_interest_42 rfl rfl ?_
                                  refine e_i2l 45 dX12_interest_44 (by omega) rfl ?_
                                  refine e_iload_n (i := 3) 46 dX12_interest_45 rfl rfl rfl ?_
                                  refine e_i2l 47 dX12_interest_46 (by omega) rfl ?_
                                  refine e_ldc2 (z := (300)) 50 (ix := 200) wd_1483 (by decide) dX12_interest_47 rfl ?_
                                  refine e_callS 53 mt_yX12_within ms_yX12_within wd_1390 (by decide) dX12_interest_50 rfl rfl (Nat.le_of_ble_eq_true rfl) (jroom (by decide)) rfl (m_within (by omega) (by omega) (by omega) (fun w50 => ?_) (fun w50 => ?_))
                                  · dsimp only [jpush]
                                    first
                                     | (exfalso; omega)
                                     | (skip
                                        refine e_if_ne 56 59 dX12_interest_53 (by decide) (by decide) rfl (fun _ => ?_) (fun h => absurd h (by decide))
                                        refine e_iload_n (i := 1) 60 dX12_interest_59 rfl rfl rfl ?_
                                        refine e_iconst 61 dX12_interest_60 rfl ?_
                                        refine e_icmp_ne 64 78 dX12_interest_61 (by omega) (by decide) (by decide) rfl (fun b61 => ?_) (fun b61 => ?_)
                                        · first
                                           | (exfalso; omega)
                                           | (skip
                                              refine e_aload_n (i := 0) 79 dX12_interest_78 rfl rfl rfl ?_
                                              refine e_iload_n (i := 1) 80 dX12_interest_79 rfl rfl rfl ?_
                                              refine e_if_ne 83 87 dX12_interest_80 (by omega) (by decide) rfl (fun b80 => ?_) (fun b80 => ?_)
                                              · first
                                                 | (exfalso; omega)
                                                 | (skip
                                                    refine e_bipush 89 dX12_interest_87 (by decide) rfl ?_
                                                    refine e_iload_n (i := 2) 90 dX12_interest_89 rfl rfl rfl ?_
                                                    refine e_iload 92 dX12_interest_90 rfl rfl ?_
                                                    refine e_iload_n (i := 3) 93 dX12_interest_92 rfl rfl rfl ?_
                                                    refine e_isub 94 dX12_interest_93 rfl ?_
                                                    refine e_callS 97 mt_yX12_halvesOf ms_yX12_halvesOf wd_1484 (by decide) dX12_interest_94 rfl rfl (Nat.le_of_ble_eq_true rfl) (jroom (by decide)) rfl (m_halvesOf (by omega) ?_)
                                                    dsimp only [jpush]
                                                    refine e_callV 100 mt_yX12_interestBy mv_yX12_interestBy wd_1487 (by decide) dX12_interest_97 at_928 jc_12 rfl rfl rfl (Nat.le_of_ble_eq_true rfl) (jroom (by decide)) rfl (m_interestBy (by decide) (by omega) (by omega) hC.rolaw (fun w97 => ?_) (fun w97 => ?_))
                                                    · dsimp only [jpush]
                                                      have hr1 := rChg_rng (loan := loan) (hv := 1 + (to - fr) / 2) hC.rlaw (by omega) (by omega)
                                                      have hr2 := rChg_rng (loan := loan) (hv := 1 + (to - fr) / 2) hC.rolaw (by omega) (by omega)
                                                      first
                                                       | (exfalso; omega)
                                                       | (skip
                                                          refine e_istore (lsn := [(5, _), (0, _), (1, _), (2, _), (3, _), (4, _)]) 102 dX12_interest_100 (by decide) rfl rfl ?_
                                                          refine e_iload 104 dX12_interest_102 rfl rfl ?_
                                                          refine e_iconst 105 dX12_interest_104 rfl ?_
                                                          refine e_icmp_ne 108 113 dX12_interest_105 (by omega) (by decide) (by decide) rfl (fun b105 => ?_) (fun b105 => ?_)
                                                          · first
                                                             | (exfalso; omega)
                                                             | (skip
                                                                refine e_iload 115 dX12_interest_113 rfl rfl ?_
                                                                refine e_iret dX12_interest_115 ?_
                                                                first
                                                                  | (exact ⟨by omega, hI⟩)
                                                                  | (rw [hC.lrel.chg]
                                                                     exact ⟨by omega, hI⟩)
                                                                  | (rw [hC.lrelo.chg]
                                                                     exact ⟨by omega, hI⟩)
                                                                  | (exfalso
                                                                     have q1 := hC.lrel.top
                                                                     have q2 := hC.lrelo.top
                                                                     have q3 := fTop_0 (M := M)
                                                                     omega))
                                                          · first
                                                             | (exfalso; omega)
                                                             | (skip
                                                                refine e_bipush 110 dX12_interest_108 (by decide) rfl ?_
                                                                refine e_goto 115 dX12_interest_110 (by decide) ?_
                                                                refine e_iret dX12_interest_115 ?_
                                                                first
                                                                  | (exact ⟨by omega, hI⟩)
                                                                  | (rw [hC.lrel.chg]
                                                                     exact ⟨by omega, hI⟩)
                                                                  | (rw [hC.lrelo.chg]
                                                                     exact ⟨by omega, hI⟩)
                                                                  | (exfalso
                                                                     have q1 := hC.lrel.top
                                                                     have q2 := hC.lrelo.top
                                                                     have q3 := fTop_0 (M := M)
                                                                     omega)))
                                                    · dsimp only [jpush]
                                                      have hr1 := rChg_rng (loan := loan) (hv := 1 + (to - fr) / 2) hC.rlaw (by omega) (by omega)
                                                      have hr2 := rChg_rng (loan := loan) (hv := 1 + (to - fr) / 2) hC.rolaw (by omega) (by omega)
                                                      first
                                                       | (exfalso; omega)
                                                       | (skip
                                                          refine e_istore (lsn := [(5, _), (0, _), (1, _), (2, _), (3, _), (4, _)]) 102 dX12_interest_100 (by decide) rfl rfl ?_
                                                          refine e_iload 104 dX12_interest_102 rfl rfl ?_
                                                          refine e_iconst 105 dX12_interest_104 rfl ?_
                                                          refine e_icmp_ne 108 113 dX12_interest_105 (by decide) (by decide) (by decide) rfl (fun h => absurd h (by decide)) (fun _ => ?_)
                                                          refine e_bipush 110 dX12_interest_108 (by decide) rfl ?_
                                                          refine e_goto 115 dX12_interest_110 (by decide) ?_
                                                          refine e_iret dX12_interest_115 ?_
                                                          first
                                                            | (exact ⟨by omega, hI⟩)
                                                            | (rw [hC.lrel.chg]
                                                               exact ⟨by omega, hI⟩)
                                                            | (rw [hC.lrelo.chg]
                                                               exact ⟨by omega, hI⟩)
                                                            | (exfalso
                                                               have q1 := hC.lrel.top
                                                               have q2 := hC.lrelo.top
                                                               have q3 := fTop_0 (M := M)
                                                               omega)))
                                              · first
                                                 | (exfalso; omega)
                                                 | (skip
                                                    refine e_iconst 84 dX12_interest_83 rfl ?_
                                                    refine e_goto 89 dX12_interest_84 (by decide) ?_
                                                    refine e_iload_n (i := 2) 90 dX12_interest_89 rfl rfl rfl ?_
                                                    refine e_iload 92 dX12_interest_90 rfl rfl ?_
                                                    refine e_iload_n (i := 3) 93 dX12_interest_92 rfl rfl rfl ?_
                                                    refine e_isub 94 dX12_interest_93 rfl ?_
                                                    refine e_callS 97 mt_yX12_halvesOf ms_yX12_halvesOf wd_1484 (by decide) dX12_interest_94 rfl rfl (Nat.le_of_ble_eq_true rfl) (jroom (by decide)) rfl (m_halvesOf (by omega) ?_)
                                                    dsimp only [jpush]
                                                    refine e_callV 100 mt_yX12_interestBy mv_yX12_interestBy wd_1487 (by decide) dX12_interest_97 at_928 jc_12 rfl rfl rfl (Nat.le_of_ble_eq_true rfl) (jroom (by decide)) rfl (m_interestBy (by decide) (by omega) (by omega) hC.rlaw (fun w97 => ?_) (fun w97 => ?_))
                                                    · dsimp only [jpush]
                                                      have hr1 := rChg_rng (loan := loan) (hv := 1 + (to - fr) / 2) hC.rlaw (by omega) (by omega)
                                                      have hr2 := rChg_rng (loan := loan) (hv := 1 + (to - fr) / 2) hC.rolaw (by omega) (by omega)
                                                      first
                                                       | (exfalso; omega)
                                                       | (skip
                                                          refine e_istore (lsn := [(5, _), (0, _), (1, _), (2, _), (3, _), (4, _)]) 102 dX12_interest_100 (by decide) rfl rfl ?_
                                                          refine e_iload 104 dX12_interest_102 rfl rfl ?_
                                                          refine e_iconst 105 dX12_interest_104 rfl ?_
                                                          refine e_icmp_ne 108 113 dX12_interest_105 (by omega) (by decide) (by decide) rfl (fun b105 => ?_) (fun b105 => ?_)
                                                          · first
                                                             | (exfalso; omega)
                                                             | (skip
                                                                refine e_iload 115 dX12_interest_113 rfl rfl ?_
                                                                refine e_iret dX12_interest_115 ?_
                                                                first
                                                                  | (exact ⟨by omega, hI⟩)
                                                                  | (rw [hC.lrel.chg]
                                                                     exact ⟨by omega, hI⟩)
                                                                  | (rw [hC.lrelo.chg]
                                                                     exact ⟨by omega, hI⟩)
                                                                  | (exfalso
                                                                     have q1 := hC.lrel.top
                                                                     have q2 := hC.lrelo.top
                                                                     have q3 := fTop_0 (M := M)
                                                                     omega))
                                                          · first
                                                             | (exfalso; omega)
                                                             | (skip
                                                                refine e_bipush 110 dX12_interest_108 (by decide) rfl ?_
                                                                refine e_goto 115 dX12_interest_110 (by decide) ?_
                                                                refine e_iret dX12_interest_115 ?_
                                                                first
                                                                  | (exact ⟨by omega, hI⟩)
                                                                  | (rw [hC.lrel.chg]
                                                                     exact ⟨by omega, hI⟩)
                                                                  | (rw [hC.lrelo.chg]
                                                                     exact ⟨by omega, hI⟩)
                                                                  | (exfalso
                                                                     have q1 := hC.lrel.top
                                                                     have q2 := hC.lrelo.top
                                                                     have q3 := fTop_0 (M := M)
                                                                     omega)))
                                                    · dsimp only [jpush]
                                                      have hr1 := rChg_rng (loan := loan) (hv := 1 + (to - fr) / 2) hC.rlaw (by omega) (by omega)
                                                      have hr2 := rChg_rng (loan := loan) (hv := 1 + (to - fr) / 2) hC.rolaw (by omega) (by omega)
                                                      first
                                                       | (exfalso; omega)
                                                       | (skip
                                                          refine e_istore (lsn := [(5, _), (0, _), (1, _), (2, _), (3, _), (4, _)]) 102 dX12_interest_100 (by decide) rfl rfl ?_
                                                          refine e_iload 104 dX12_interest_102 rfl rfl ?_
                                                          refine e_iconst 105 dX12_interest_104 rfl ?_
                                                          refine e_icmp_ne 108 113 dX12_interest_105 (by decide) (by decide) (by decide) rfl (fun h => absurd h (by decide)) (fun _ => ?_)
                                                          refine e_bipush 110 dX12_interest_108 (by decide) rfl ?_
                                                          refine e_goto 115 dX12_interest_110 (by decide) ?_
                                                          refine e_iret dX12_interest_115 ?_
                                                          first
                                                            | (exact ⟨by omega, hI⟩)
                                                            | (rw [hC.lrel.chg]
                                                               exact ⟨by omega, hI⟩)
                                                            | (rw [hC.lrelo.chg]
                                                               exact ⟨by omega, hI⟩)
                                                            | (exfalso
                                                               have q1 := hC.lrel.top
                                                               have q2 := hC.lrelo.top
                                                               have q3 := fTop_0 (M := M)
                                                               omega))))
                                        · first
                                           | (exfalso; omega)
                                           | (skip
                                              refine e_aload_n (i := 0) 65 dX12_interest_64 rfl rfl rfl ?_
                                              refine e_getr (j := 1) 68 fl_12_13 dX12_interest_65 at_928 rfl rfl tp_928_1 rfl ?_
                                              refine e_bipush 70 dX12_interest_68 (by decide) rfl ?_
                                              refine e_iald 71 dX12_interest_70 ar_929 (by decide) (by decide) rfl (fun r70 => ?_)
                                              refine e_if_ne 74 78 dX12_interest_71 (by omega) (by decide) rfl (fun b71 => ?_) (fun b71 => ?_)
                                              · first
                                                 | (exfalso; omega)
                                                 | (skip
                                                    refine e_aload_n (i := 0) 79 dX12_interest_78 rfl rfl rfl ?_
                                                    refine e_iload_n (i := 1) 80 dX12_interest_79 rfl rfl rfl ?_
                                                    refine e_if_ne 83 87 dX12_interest_80 (by omega) (by decide) rfl (fun b80 => ?_) (fun b80 => ?_)
                                                    · first
                                                       | (exfalso; omega)
                                                       | (skip
                                                          refine e_bipush 89 dX12_interest_87 (by decide) rfl ?_
                                                          refine e_iload_n (i := 2) 90 dX12_interest_89 rfl rfl rfl ?_
                                                          refine e_iload 92 dX12_interest_90 rfl rfl ?_
                                                          refine e_iload_n (i := 3) 93 dX12_interest_92 rfl rfl rfl ?_
                                                          refine e_isub 94 dX12_interest_93 rfl ?_
                                                          refine e_callS 97 mt_yX12_halvesOf ms_yX12_halvesOf wd_1484 (by decide) dX12_interest_94 rfl rfl (Nat.le_of_ble_eq_true rfl) (jroom (by decide)) rfl (m_halvesOf (by omega) ?_)
                                                          dsimp only [jpush]
                                                          refine e_callV 100 mt_yX12_interestBy mv_yX12_interestBy wd_1487 (by decide) dX12_interest_97 at_928 jc_12 rfl rfl rfl (Nat.le_of_ble_eq_true rfl) (jroom (by decide)) rfl (m_interestBy (by decide) (by omega) (by omega) hC.rolaw (fun w97 => ?_) (fun w97 => ?_))
                                                          · dsimp only [jpush]
                                                            have hr1 := rChg_rng (loan := loan) (hv := 1 + (to - fr) / 2) hC.rlaw (by omega) (by omega)
                                                            have hr2 := rChg_rng (loan := loan) (hv := 1 + (to - fr) / 2) hC.rolaw (by omega) (by omega)
                                                            first
                                                             | (exfalso; omega)
                                                             | (skip
                                                                refine e_istore (lsn := [(5, _), (0, _), (1, _), (2, _), (3, _), (4, _)]) 102 dX12_interest_100 (by decide) rfl rfl ?_
                                                                refine e_iload 104 dX12_interest_102 rfl rfl ?_
                                                                refine e_iconst 105 dX12_interest_104 rfl ?_
                                                                refine e_icmp_ne 108 113 dX12_interest_105 (by omega) (by decide) (by decide) rfl (fun b105 => ?_) (fun b105 => ?_)
                                                                · first
                                                                   | (exfalso; omega)
                                                                   | (skip
                                                                      refine e_iload 115 dX12_interest_113 rfl rfl ?_
                                                                      refine e_iret dX12_interest_115 ?_
                                                                      first
                                                                        | (exact ⟨by omega, hI⟩)
                                                                        | (rw [hC.lrel.chg]
                                                                           exact ⟨by omega, hI⟩)
                                                                        | (rw [hC.lrelo.chg]
                                                                           exact ⟨by omega, hI⟩)
                                                                        | (exfalso
                                                                           have q1 := hC.lrel.top
                                                                           have q2 := hC.lrelo.top
                                                                           have q3 := fTop_0 (M := M)
                                                                           omega))
                                                                · first
                                                                   | (exfalso; omega)
                                                                   | (skip
                                                                      refine e_bipush 110 dX12_interest_108 (by decide) rfl ?_
                                                                      refine e_goto 115 dX12_interest_110 (by decide) ?_
                                                                      refine e_iret dX12_interest_115 ?_
                                                                      first
                                                                        | (exact ⟨by omega, hI⟩)
                                                                        | (rw [hC.lrel.chg]
                                                                           exact ⟨by omega, hI⟩)
                                                                        | (rw [hC.lrelo.chg]
                                                                           exact ⟨by omega, hI⟩)
                                                                        | (exfalso
                                                                           have q1 := hC.lrel.top
                                                                           have q2 := hC.lrelo.top
                                                                           have q3 := fTop_0 (M := M)
                                                                           omega)))
                                                          · dsimp only [jpush]
                                                            have hr1 := rChg_rng (loan := loan) (hv := 1 + (to - fr) / 2) hC.rlaw (by omega) (by omega)
                                                            have hr2 := rChg_rng (loan := loan) (hv := 1 + (to - fr) / 2) hC.rolaw (by omega) (by omega)
                                                            first
                                                             | (exfalso; omega)
                                                             | (skip
                                                                refine e_istore (lsn := [(5, _), (0, _), (1, _), (2, _), (3, _), (4, _)]) 102 dX12_interest_100 (by decide) rfl rfl ?_
                                                                refine e_iload 104 dX12_interest_102 rfl rfl ?_
                                                                refine e_iconst 105 dX12_interest_104 rfl ?_
                                                                refine e_icmp_ne 108 113 dX12_interest_105 (by decide) (by decide) (by decide) rfl (fun h => absurd h (by decide)) (fun _ => ?_)
                                                                refine e_bipush 110 dX12_interest_108 (by decide) rfl ?_
                                                                refine e_goto 115 dX12_interest_110 (by decide) ?_
                                                                refine e_iret dX12_interest_115 ?_
                                                                first
                                                                  | (exact ⟨by omega, hI⟩)
                                                                  | (rw [hC.lrel.chg]
                                                                     exact ⟨by omega, hI⟩)
                                                                  | (rw [hC.lrelo.chg]
                                                                     exact ⟨by omega, hI⟩)
                                                                  | (exfalso
                                                                     have q1 := hC.lrel.top
                                                                     have q2 := hC.lrelo.top
                                                                     have q3 := fTop_0 (M := M)
                                                                     omega)))
                                                    · first
                                                       | (exfalso; omega)
                                                       | (skip
                                                          refine e_iconst 84 dX12_interest_83 rfl ?_
                                                          refine e_goto 89 dX12_interest_84 (by decide) ?_
                                                          refine e_iload_n (i := 2) 90 dX12_interest_89 rfl rfl rfl ?_
                                                          refine e_iload 92 dX12_interest_90 rfl rfl ?_
                                                          refine e_iload_n (i := 3) 93 dX12_interest_92 rfl rfl rfl ?_
                                                          refine e_isub 94 dX12_interest_93 rfl ?_
                                                          refine e_callS 97 mt_yX12_halvesOf ms_yX12_halvesOf wd_1484 (by decide) dX12_interest_94 rfl rfl (Nat.le_of_ble_eq_true rfl) (jroom (by decide)) rfl (m_halvesOf (by omega) ?_)
                                                          dsimp only [jpush]
                                                          refine e_callV 100 mt_yX12_interestBy mv_yX12_interestBy wd_1487 (by decide) dX12_interest_97 at_928 jc_12 rfl rfl rfl (Nat.le_of_ble_eq_true rfl) (jroom (by decide)) rfl (m_interestBy (by decide) (by omega) (by omega) hC.rlaw (fun w97 => ?_) (fun w97 => ?_))
                                                          · dsimp only [jpush]
                                                            have hr1 := rChg_rng (loan := loan) (hv := 1 + (to - fr) / 2) hC.rlaw (by omega) (by omega)
                                                            have hr2 := rChg_rng (loan := loan) (hv := 1 + (to - fr) / 2) hC.rolaw (by omega) (by omega)
                                                            first
                                                             | (exfalso; omega)
                                                             | (skip
                                                                refine e_istore (lsn := [(5, _), (0, _), (1, _), (2, _), (3, _), (4, _)]) 102 dX12_interest_100 (by decide) rfl rfl ?_
                                                                refine e_iload 104 dX12_interest_102 rfl rfl ?_
                                                                refine e_iconst 105 dX12_interest_104 rfl ?_
                                                                refine e_icmp_ne 108 113 dX12_interest_105 (by omega) (by decide) (by decide) rfl (fun b105 => ?_) (fun b105 => ?_)
                                                                · first
                                                                   | (exfalso; omega)
                                                                   | (skip
                                                                      refine e_iload 115 dX12_interest_113 rfl rfl ?_
                                                                      refine e_iret dX12_interest_115 ?_
                                                                      first
                                                                        | (exact ⟨by omega, hI⟩)
                                                                        | (rw [hC.lrel.chg]
                                                                           exact ⟨by omega, hI⟩)
                                                                        | (rw [hC.lrelo.chg]
                                                                           exact ⟨by omega, hI⟩)
                                                                        | (exfalso
                                                                           have q1 := hC.lrel.top
                                                                           have q2 := hC.lrelo.top
                                                                           have q3 := fTop_0 (M := M)
                                                                           omega))
                                                                · first
                                                                   | (exfalso; omega)
                                                                   | (skip
                                                                      refine e_bipush 110 dX12_interest_108 (by decide) rfl ?_
                                                                      refine e_goto 115 dX12_interest_110 (by decide) ?_
                                                                      refine e_iret dX12_interest_115 ?_
                                                                      first
                                                                        | (exact ⟨by omega, hI⟩)
                                                                        | (rw [hC.lrel.chg]
                                                                           exact ⟨by omega, hI⟩)
                                                                        | (rw [hC.lrelo.chg]
                                                                           exact ⟨by omega, hI⟩)
                                                                        | (exfalso
                                                                           have q1 := hC.lrel.top
                                                                           have q2 := hC.lrelo.top
                                                                           have q3 := fTop_0 (M := M)
                                                                           omega)))
                                                          · dsimp only [jpush]
                                                            have hr1 := rChg_rng (loan := loan) (hv := 1 + (to - fr) / 2) hC.rlaw (by omega) (by omega)
                                                            have hr2 := rChg_rng (loan := loan) (hv := 1 + (to - fr) / 2) hC.rolaw (by omega) (by omega)
                                                            first
                                                             | (exfalso; omega)
                                                             | (skip
                                                                refine e_istore (lsn := [(5, _), (0, _), (1, _), (2, _), (3, _), (4, _)]) 102 dX12_interest_100 (by decide) rfl rfl ?_
                                                                refine e_iload 104 dX12_interest_102 rfl rfl ?_
                                                                refine e_iconst 105 dX12_interest_104 rfl ?_
                                                                refine e_icmp_ne 108 113 dX12_interest_105 (by decide) (by decide) (by decide) rfl (fun h => absurd h (by decide)) (fun _ => ?_)
                                                                refine e_bipush 110 dX12_interest_108 (by decide) rfl ?_
                                                                refine e_goto 115 dX12_interest_110 (by decide) ?_
                                                                refine e_iret dX12_interest_115 ?_
                                                                first
                                                                  | (exact ⟨by omega, hI⟩)
                                                                  | (rw [hC.lrel.chg]
                                                                     exact ⟨by omega, hI⟩)
                                                                  | (rw [hC.lrelo.chg]
                                                                     exact ⟨by omega, hI⟩)
                                                                  | (exfalso
                                                                     have q1 := hC.lrel.top
                                                                     have q2 := hC.lrelo.top
                                                                     have q3 := fTop_0 (M := M)
                                                                     omega))))
                                              · first
                                                 | (exfalso; omega)
                                                 | (skip
                                                    refine e_iconst 75 dX12_interest_74 rfl ?_
                                                    refine e_goto 100 dX12_interest_75 (by decide) ?_
                                                    refine e_istore (lsn := [(5, _), (0, _), (1, _), (2, _), (3, _), (4, _)]) 102 dX12_interest_100 (by decide) rfl rfl ?_
                                                    refine e_iload 104 dX12_interest_102 rfl rfl ?_
                                                    refine e_iconst 105 dX12_interest_104 rfl ?_
                                                    refine e_icmp_ne 108 113 dX12_interest_105 (by decide) (by decide) (by decide) rfl (fun h => absurd h (by decide)) (fun _ => ?_)
                                                    refine e_bipush 110 dX12_interest_108 (by decide) rfl ?_
                                                    refine e_goto 115 dX12_interest_110 (by decide) ?_
                                                    refine e_iret dX12_interest_115 ?_
                                                    first
                                                      | (exact ⟨by omega, hI⟩)
                                                      | (rw [hC.lrel.chg]
                                                         exact ⟨by omega, hI⟩)
                                                      | (rw [hC.lrelo.chg]
                                                         exact ⟨by omega, hI⟩)
                                                      | (exfalso
                                                         have q1 := hC.lrel.top
                                                         have q2 := hC.lrelo.top
                                                         have q3 := fTop_0 (M := M)
                                                         omega))))
                                  · dsimp only [jpush]
                                    first
                                     | (exfalso; omega)
                                     | (skip
                                        refine e_if_ne 56 59 dX12_interest_53 (by decide) (by decide) rfl (fun h => absurd h (by decide)) (fun _ => ?_)
                                        refine e_bipush 58 dX12_interest_56 (by decide) rfl ?_
                                        refine e_iret dX12_interest_58 ?_
                                        first
                                          | (exact ⟨by omega, hI⟩)
                                          | (rw [hC.lrel.chg]
                                             exact ⟨by omega, hI⟩)
                                          | (rw [hC.lrelo.chg]
                                             exact ⟨by omega, hI⟩)
                                          | (exfalso
                                             have q1 := hC.lrel.top
                                             have q2 := hC.lrelo.top
                                             have q3 := fTop_0 (M := M)
                                             omega)))
                            · dsimp only [jpush]
                              first
                               | (exfalso; omega)
                               | (skip
                                  refine e_if_eq 42 56 dX12_interest_39 (by decide) (by decide) rfl (fun _ => ?_) (fun h => absurd h (by decide))
                                  refine e_bipush 58 dX12_interest_56 (by decide) rfl ?_
                                  refine e_iret dX12_interest_58 ?_
                                  first
                                    | (exact ⟨by omega, hI⟩)
                                    | (rw [hC.lrel.chg]
                                       exact ⟨by omega, hI⟩)
                                    | (rw [hC.lrelo.chg]
                                       exact ⟨by omega, hI⟩)
                                    | (exfalso
                                       have q1 := hC.lrel.top
                                       have q2 := hC.lrelo.top
                                       have q3 := fTop_0 (M := M)
                                       omega)))
                      · dsimp only [jpush]
                        first
                         | (exfalso; omega)
                         | (skip
                            refine e_if_eq 30 56 dX12_interest_27 (by decide) (by decide) rfl (fun _ => ?_) (fun h => absurd h (by decide))
                            refine e_bipush 58 dX12_interest_56 (by decide) rfl ?_
                            refine e_iret dX12_interest_58 ?_
                            first
                              | (exact ⟨by omega, hI⟩)
                              | (rw [hC.lrel.chg]
                                 exact ⟨by omega, hI⟩)
                              | (rw [hC.lrelo.chg]
                                 exact ⟨by omega, hI⟩)
                              | (exfalso
                                 have q1 := hC.lrel.top
                                 have q2 := hC.lrelo.top
                                 have q3 := fTop_0 (M := M)
                                 omega)))
                · dsimp only [jpush]
                  first
                   | (exfalso; omega)
                   | (skip
                      refine e_if_ne 15 18 dX12_interest_12 (by decide) (by decide) rfl (fun h => absurd h (by decide)) (fun _ => ?_)
                      refine e_bipush 17 dX12_interest_15 (by decide) rfl ?_
                      refine e_iret dX12_interest_17 ?_
                      first
                        | (exact ⟨by omega, hI⟩)
                        | (rw [hC.lrel.chg]
                           exact ⟨by omega, hI⟩)
                        | (rw [hC.lrelo.chg]
                           exact ⟨by omega, hI⟩)
                        | (exfalso
                           have q1 := hC.lrel.top
                           have q2 := hC.lrelo.top
                           have q3 := fTop_0 (M := M)
                           omega))
            · skip
              refine e_aload_n (i := 0) 50 dX11_interest_49 rfl rfl rfl ?_
              refine e_getr (j := 0) 53 fl_11_10 dX11_interest_50 at_0 rfl rfl tp_0_0 rfl ?_
              refine e_getr (j := 0) 56 fl_11_73 dX11_interest_53 at_1 rfl rfl tp_1_0 rfl ?_
              refine e_goto 66 dX11_interest_56 (by decide) ?_
              refine e_astore (lsn := [(5, _), (0, _), (1, _), (2, _), (3, _), (4, _)]) 68 dX11_interest_66 (by decide) rfl rfl ?_
              refine e_aload 70 dX11_interest_68 rfl rfl ?_
              refine e_iload_n (i := 2) 71 dX11_interest_70 rfl rfl rfl ?_
              refine e_callV 74 mt_yX1_lends mv_yX1_lends wd_730 (by decide) dX11_interest_71 at_2 jc_1 rfl rfl rfl (Nat.le_of_ble_eq_true rfl) (jroom (by decide)) rfl (c_lends (by omega) lw_2 hC.lrel.ok (fun w71 => ?_) (fun w71 => ?_))
              · dsimp only [jpush]
                refine e_if_ne 77 80 dX11_interest_74 (by decide) (by decide) rfl (fun _ => ?_) (fun h => absurd h (by decide))
                refine e_aload 82 dX11_interest_80 rfl rfl ?_
                refine e_iload_n (i := 2) 83 dX11_interest_82 rfl rfl rfl ?_
                refine e_iload_n (i := 3) 84 dX11_interest_83 rfl rfl rfl ?_
                refine e_iload 86 dX11_interest_84 rfl rfl ?_
                refine e_callS 89 mt_yX1_halves ms_yX1_halves wd_735 (by decide) dX11_interest_86 rfl rfl (Nat.le_of_ble_eq_true rfl) (jroom (by decide)) rfl (c_halves (by omega) ?_)
                dsimp only [jpush]
                refine e_callV 92 mt_yX1_charge mv_yX1_charge wd_738 (by decide) dX11_interest_89 at_2 jc_1 rfl rfl rfl (Nat.le_of_ble_eq_true rfl) (jroom (by decide)) rfl (c_charge (by omega) (by omega) lw_2 hC.lrel.ok ?_)
                dsimp only [jpush]
                refine e_iret dX11_interest_92 ?_
                refine jCt_of mt_yX12_interest (Nat.le_of_ble_eq_true rfl) (fun X2 => ?_)
                refine e_aload_n (i := 0) 1 dX12_interest_0 rfl rfl rfl ?_
                refine e_iconst 2 dX12_interest_1 rfl ?_
                refine e_put0 (j := 0) 5 fl_12_1 dX12_interest_2 at_928 rfl rfl rfl (by decide) hI.1 rfl ?_
                refine e_iload_n (i := 1) 6 dX12_interest_5 rfl rfl rfl ?_
                refine e_i2l 7 dX12_interest_6 (by omega) rfl ?_
                refine e_lconst0 8 dX12_interest_7 rfl ?_
                refine e_lconst1 9 dX12_interest_8 rfl ?_
                refine e_callS 12 mt_yX12_within ms_yX12_within wd_1390 (by decide) dX12_interest_9 rfl rfl (Nat.le_of_ble_eq_true rfl) (jroom (by decide)) rfl (m_within (by omega) (by omega) (by omega) (fun w9 => ?_) (fun w9 => ?_))
                · dsimp only [jpush]
                  first
                   | (exfalso; omega)
                   | (skip
                      refine e_if_ne 15 18 dX12_interest_12 (by decide) (by decide) rfl (fun _ => ?_) (fun h => absurd h (by decide))
                      refine e_iload_n (i := 2) 19 dX12_interest_18 rfl rfl rfl ?_
                      refine e_i2l 20 dX12_interest_19 (by omega) rfl ?_
                      refine e_lconst1 21 dX12_interest_20 rfl ?_
                      refine e_ldc2 (z := (999)) 24 (ix := 198) wd_1482 (by decide) dX12_interest_21 rfl ?_
                      refine e_callS 27 mt_yX12_within ms_yX12_within wd_1390 (by decide) dX12_interest_24 rfl rfl (Nat.le_of_ble_eq_true rfl) (jroom (by decide)) rfl (m_within (by omega) (by omega) (by omega) (fun w24 => ?_) (fun w24 => ?_))
                      · dsimp only [jpush]
                        first
                         | (exfalso; omega)
                         | (skip
                            refine e_if_eq 30 56 dX12_interest_27 (by decide) (by decide) rfl (fun h => absurd h (by decide)) (fun _ => ?_)
                            refine e_iload_n (i := 3) 31 dX12_interest_30 rfl rfl rfl ?_
                            refine e_i2l 32 dX12_interest_31 (by omega) rfl ?_
                            refine e_lconst0 33 dX12_interest_32 rfl ?_
                            refine e_ldc2 (z := (300)) 36 (ix := 200) wd_1483 (by decide) dX12_interest_33 rfl ?_
                            refine e_callS 39 mt_yX12_within ms_yX12_within wd_1390 (by decide) dX12_interest_36 rfl rfl (Nat.le_of_ble_eq_true rfl) (jroom (by decide)) rfl (m_within (by omega) (by omega) (by omega) (fun w36 => ?_) (fun w36 => ?_))
                            · dsimp only [jpush]
                              first
                               | (exfalso; omega)
                               | (skip
                                  refine e_if_eq 42 56 dX12_interest_39 (by decide) (by decide) rfl (fun h => absurd h (by decide)) (fun _ => ?_)
                                  refine e_iload 44 dX12_interest_42 rfl rfl ?_
                                  refine e_i2l 45 dX12_interest_44 (by omega) rfl ?_
                                  refine e_iload_n (i := 3) 46 dX12_interest_45 rfl rfl rfl ?_
                                  refine e_i2l 47 dX12_interest_46 (by omega) rfl ?_
                                  refine e_ldc2 (z := (300)) 50 (ix := 200) wd_1483 (by decide) dX12_interest_47 rfl ?_
                                  refine e_callS 53 mt_yX12_within ms_yX12_within wd_1390 (by decide) dX12_interest_50 rfl rfl (Nat.le_of_ble_eq_true rfl) (jroom (by decide)) rfl (m_within (by omega) (by omega) (by omega) (fun w50 => ?_) (fun w50 => ?_))
                                  · dsimp only [jpush]
                                    first
                                     | (exfalso; omega)
                                     | (skip
                                        refine e_if_ne 56 59 dX12_interest_53 (by decide) (by decide) rfl (fun _ => ?_) (fun h => absurd h (by decide))
                                        refine e_iload_n (i := 1) 60 dX12_interest_59 rfl rfl rfl ?_
                                        refine e_iconst 61 dX12_interest_60 rfl ?_
                                        refine e_icmp_ne 64 78 dX12_interest_61 (by omega) (by decide) (by decide) rfl (fun b61 => ?_) (fun b61 => ?_)
                                        · first
                                           | (exfalso; omega)
                                           | (skip
                                              refine e_aload_n (i := 0) 79 dX12_interest_78 rfl rfl rfl ?_
                                              refine e_iload_n (i := 1) 80 dX12_interest_79 rfl rfl rfl ?_
                                              refine e_if_ne 83 87 dX12_interest_80 (by omega) (by decide) rfl (fun b80 => ?_) (fun b80 => ?_)
                                              · first
                                                 | (exfalso; omega)
                                                 | (skip
                                                    refine e_bipush 89 dX12_interest_87 (by decide) rfl ?_
                                                    refine e_iload_n (i := 2) 90 dX12_interest_89 rfl rfl rfl ?_
                                                    refine e_iload 92 dX12_interest_90 rfl rfl ?_
                                                    refine e_iload_n (i := 3) 93 dX12_interest_92 rfl rfl rfl ?_
                                                    refine e_isub 94 dX12_interest_93 rfl ?_
                                                    refine e_callS 97 mt_yX12_halvesOf ms_yX12_halvesOf wd_1484 (by decide) dX12_interest_94 rfl rfl (Nat.le_of_ble_eq_true rfl) (jroom (by decide)) rfl (m_halvesOf (by omega) ?_)
                                                    dsimp only [jpush]
                                                    refine e_callV 100 mt_yX12_interestBy mv_yX12_interestBy wd_1487 (by decide) dX12_interest_97 at_928 jc_12 rfl rfl rfl (Nat.le_of_ble_eq_true rfl) (jroom (by decide)) rfl (m_interestBy (by decide) (by omega) (by omega) hC.rolaw (fun w97 => ?_) (fun w97 => ?_))
                                                    · dsimp only [jpush]
                                                      have hr1 := rChg_rng (loan := loan) (hv := 1 + (to - fr) / 2) hC.rlaw (by omega) (by omega)
                                                      have hr2 := rChg_rng (loan := loan) (hv := 1 + (to - fr) / 2) hC.rolaw (by omega) (by omega)
                                                      first
                                                       | (exfalso; omega)
                                                       | (skip
                                                          refine e_istore (lsn := [(5, _), (0, _), (1, _), (2, _), (3, _), (4, _)]) 102 dX12_interest_100 (by decide) rfl rfl ?_
                                                          refine e_iload 104 dX12_interest_102 rfl rfl ?_
                                                          refine e_iconst 105 dX12_interest_104 rfl ?_
                                                          refine e_icmp_ne 108 113 dX12_interest_105 (by omega) (by decide) (by decide) rfl (fun b105 => ?_) (fun b105 => ?_)
                                                          · first
                                                             | (exfalso; omega)
                                                             | (skip
                                                                refine e_iload 115 dX12_interest_113 rfl rfl ?_
                                                                refine e_iret dX12_interest_115 ?_
                                                                first
                                                                  | (exact ⟨by omega, hI⟩)
                                                                  | (rw [hC.lrel.chg]
                                                                     exact ⟨by omega, hI⟩)
                                                                  | (rw [hC.lrelo.chg]
                                                                     exact ⟨by omega, hI⟩)
                                                                  | (exfalso
                                                                     have q1 := hC.lrel.top
                                                                     have q2 := hC.lrelo.top
                                                                     have q3 := fTop_0 (M := M)
                                                                     omega))
                                                          · first
                                                             | (exfalso; omega)
                                                             | (skip
                                                                refine e_bipush 110 dX12_interest_108 (by decide) rfl ?_
                                                                refine e_goto 115 dX12_interest_110 (by decide) ?_
                                                                refine e_iret dX12_interest_115 ?_
                                                                first
                                                                  | (exact ⟨by omega, hI⟩)
                                                                  | (rw [hC.lrel.chg]
                                                                     exact ⟨by omega, hI⟩)
                                                                  | (rw [hC.lrelo.chg]
                                                                     exact ⟨by omega, hI⟩)
                                                                  | (exfalso
                                                                     have q1 := hC.lrel.top
                                                                     have q2 := hC.lrelo.top
                                                                     have q3 := fTop_0 (M := M)
                                                                     omega)))
                                                    · dsimp only [jpush]
                                                      have hr1 := rChg_rng (loan := loan) (hv := 1 + (to - fr) / 2) hC.rlaw (by omega) (by omega)
                                                      have hr2 := rChg_rng (loan := loan) (hv := 1 + (to - fr) / 2) hC.rolaw (by omega) (by omega)
                                                      first
                                                       | (exfalso; omega)
                                                       | (skip
                                                          refine e_istore (lsn := [(5, _), (0, _), (1, _), (2, _), (3, _), (4, _)]) 102 dX12_interest_100 (by decide) rfl rfl ?_
                                                          refine e_iload 104 dX12_interest_102 rfl rfl ?_
                                                          refine e_iconst 105 dX12_interest_104 rfl ?_
                                                          refine e_icmp_ne 108 113 dX12_interest_105 (by decide) (by decide) (by decide) rfl (fun h => absurd h (by decide)) (fun _ => ?_)
                                                          refine e_bipush 110 dX12_interest_108 (by decide) rfl ?_
                                                          refine e_goto 115 dX12_interest_110 (by decide) ?_
                                                          refine e_iret dX12_interest_115 ?_
                                                          first
                                                            | (exact ⟨by omega, hI⟩)
                                                            | (rw [hC.lrel.chg]
                                                               exact ⟨by omega, hI⟩)
                                                            | (rw [hC.lrelo.chg]
                                                               exact ⟨by omega, hI⟩)
                                                            | (exfalso
                                                               have q1 := hC.lrel.top
                                                               have q2 := hC.lrelo.top
                                                               have q3 := fTop_0 (M := M)
                                                               omega)))
                                              · first
                                                 | (exfalso; omega)
                                                 | (skip
                                                    refine e_iconst 84 dX12_interest_83 rfl ?_
                                                    refine e_goto 89 dX12_interest_84 (by decide) ?_
                                                    refine e_iload_n (i := 2) 90 dX12_interest_89 rfl rfl rfl ?_
                                                    refine e_iload 92 dX12_interest_90 rfl rfl ?_
                                                    refine e_iload_n (i := 3) 93 dX12_interest_92 rfl rfl rfl ?_
                                                    refine e_isub 94 dX12_interest_93 rfl ?_
                                                    refine e_callS 97 mt_yX12_halvesOf ms_yX12_halvesOf wd_1484 (by decide) dX12_interest_94 rfl rfl (Nat.le_of_ble_eq_true rfl) (jroom (by decide)) rfl (m_halvesOf (by omega) ?_)
                                                    dsimp only [jpush]
                                                    refine e_callV 100 mt_yX12_interestBy mv_yX12_interestBy wd_1487 (by decide) dX12_interest_97 at_928 jc_12 rfl rfl rfl (Nat.le_of_ble_eq_true rfl) (jroom (by decide)) rfl (m_interestBy (by decide) (by omega) (by omega) hC.rlaw (fun w97 => ?_) (fun w97 => ?_))
                                                    · dsimp only [jpush]
                                                      have hr1 := rChg_rng (loan := loan) (hv := 1 + (to - fr) / 2) hC.rlaw (by omega) (by omega)
                                                      have hr2 := rChg_rng (loan := loan) (hv := 1 + (to - fr) / 2) hC.rolaw (by omega) (by omega)
                                                      first
                                                       | (exfalso; omega)
                                                       | (skip
                                                          refine e_istore (lsn := [(5, _), (0, _), (1, _), (2, _), (3, _), (4, _)]) 102 dX12_interest_100 (by decide) rfl rfl ?_
                                                          refine e_iload 104 dX12_interest_102 rfl rfl ?_
                                                          refine e_iconst 105 dX12_interest_104 rfl ?_
                                                          refine e_icmp_ne 108 113 dX12_interest_105 (by omega) (by decide) (by decide) rfl (fun b105 => ?_) (fun b105 => ?_)
                                                          · first
                                                             | (exfalso; omega)
                                                             | (skip
                                                                refine e_iload 115 dX12_interest_113 rfl rfl ?_
                                                                refine e_iret dX12_interest_115 ?_
                                                                first
                                                                  | (exact ⟨by omega, hI⟩)
                                                                  | (rw [hC.lrel.chg]
                                                                     exact ⟨by omega, hI⟩)
                                                                  | (rw [hC.lrelo.chg]
                                                                     exact ⟨by omega, hI⟩)
                                                                  | (exfalso
                                                                     have q1 := hC.lrel.top
                                                                     have q2 := hC.lrelo.top
                                                                     have q3 := fTop_0 (M := M)
                                                                     omega))
                                                          · first
                                                             | (exfalso; omega)
                                                             | (skip
                                                                refine e_bipush 110 dX12_interest_108 (by decide) rfl ?_
                                                                refine e_goto 115 dX12_interest_110 (by decide) ?_
                                                                refine e_iret dX12_interest_115 ?_
                                                                first
                                                                  | (exact ⟨by omega, hI⟩)
                                                                  | (rw [hC.lrel.chg]
                                                                     exact ⟨by omega, hI⟩)
                                                                  | (rw [hC.lrelo.chg]
                                                                     exact ⟨by omega, hI⟩)
                                                                  | (exfalso
                                                                     have q1 := hC.lrel.top
                                                                     have q2 := hC.lrelo.top
                                                                     have q3 := fTop_0 (M := M)
                                                                     omega)))
                                                    · dsimp only [jpush]
                                                      have hr1 := rChg_rng (loan := loan) (hv := 1 + (to - fr) / 2) hC.rlaw (by omega) (by omega)
                                                      have hr2 := rChg_rng (loan := loan) (hv := 1 + (to - fr) / 2) hC.rolaw (by omega) (by omega)
                                                      first
                                                       | (exfalso; omega)
                                                       | (skip
                                                          refine e_istore (lsn := [(5, _), (0, _), (1, _), (2, _), (3, _), (4, _)]) 102 dX12_interest_100 (by decide) rfl rfl ?_
                                                          refine e_iload 104 dX12_interest_102 rfl rfl ?_
                                                          refine e_iconst 105 dX12_interest_104 rfl ?_
                                                          refine e_icmp_ne 108 113 dX12_interest_105 (by decide) (by decide) (by decide) rfl (fun h => absurd h (by decide)) (fun _ => ?_)
                                                          refine e_bipush 110 dX12_interest_108 (by decide) rfl ?_
                                                          refine e_goto 115 dX12_interest_110 (by decide) ?_
                                                          refine e_iret dX12_interest_115 ?_
                                                          first
                                                            | (exact ⟨by omega, hI⟩)
                                                            | (rw [hC.lrel.chg]
                                                               exact ⟨by omega, hI⟩)
                                                            | (rw [hC.lrelo.chg]
                                                               exact ⟨by omega, hI⟩)
                                                            | (exfalso
                                                               have q1 := hC.lrel.top
                                                               have q2 := hC.lrelo.top
                                                               have q3 := fTop_0 (M := M)
                                                               omega))))
                                        · first
                                           | (exfalso; omega)
                                           | (skip
                                              refine e_aload_n (i := 0) 65 dX12_interest_64 rfl rfl rfl ?_
                                              refine e_getr (j := 1) 68 fl_12_13 dX12_interest_65 at_928 rfl rfl tp_928_1 rfl ?_
                                              refine e_bipush 70 dX12_interest_68 (by decide) rfl ?_
                                              refine e_iald 71 dX12_interest_70 ar_929 (by decide) (by decide) rfl (fun r70 => ?_)
                                              refine e_if_ne 74 78 dX12_interest_71 (by omega) (by decide) rfl (fun b71 => ?_) (fun b71 => ?_)
                                              · first
                                                 | (exfalso; omega)
                                                 | (skip
                                                    refine e_aload_n (i := 0) 79 dX12_interest_78 rfl rfl rfl ?_
                                                    refine e_iload_n (i := 1) 80 dX12_interest_79 rfl rfl rfl ?_
                                                    refine e_if_ne 83 87 dX12_interest_80 (by omega) (by decide) rfl (fun b80 => ?_) (fun b80 => ?_)
                                                    · first
                                                       | (exfalso; omega)
                                                       | (skip
                                                          refine e_bipush 89 dX12_interest_87 (by decide) rfl ?_
                                                          refine e_iload_n (i := 2) 90 dX12_interest_89 rfl rfl rfl ?_
                                                          refine e_iload 92 dX12_interest_90 rfl rfl ?_
                                                          refine e_iload_n (i := 3) 93 dX12_interest_92 rfl rfl rfl ?_
                                                          refine e_isub 94 dX12_interest_93 rfl ?_
                                                          refine e_callS 97 mt_yX12_halvesOf ms_yX12_halvesOf wd_1484 (by decide) dX12_interest_94 rfl rfl (Nat.le_of_ble_eq_true rfl) (jroom (by decide)) rfl (m_halvesOf (by omega) ?_)
                                                          dsimp only [jpush]
                                                          refine e_callV 100 mt_yX12_interestBy mv_yX12_interestBy wd_1487 (by decide) dX12_interest_97 at_928 jc_12 rfl rfl rfl (Nat.le_of_ble_eq_true rfl) (jroom (by decide)) rfl (m_interestBy (by decide) (by omega) (by omega) hC.rolaw (fun w97 => ?_) (fun w97 => ?_))
                                                          · dsimp only [jpush]
                                                            have hr1 := rChg_rng (loan := loan) (hv := 1 + (to - fr) / 2) hC.rlaw (by omega) (by omega)
                                                            have hr2 := rChg_rng (loan := loan) (hv := 1 + (to - fr) / 2) hC.rolaw (by omega) (by omega)
                                                            first
                                                             | (exfalso; omega)
                                                             | (skip
                                                                refine e_istore (lsn := [(5, _), (0, _), (1, _), (2, _), (3, _), (4, _)]) 102 dX12_interest_100 (by decide) rfl rfl ?_
                                                                refine e_iload 104 dX12_interest_102 rfl rfl ?_
                                                                refine e_iconst 105 dX12_interest_104 rfl ?_
                                                                refine e_icmp_ne 108 113 dX12_interest_105 (by omega) (by decide) (by decide) rfl (fun b105 => ?_) (fun b105 => ?_)
                                                                · first
                                                                   | (exfalso; omega)
                                                                   | (skip
                                                                      refine e_iload 115 dX12_interest_113 rfl rfl ?_
                                                                      refine e_iret dX12_interest_115 ?_
                                                                      first
                                                                        | (exact ⟨by omega, hI⟩)
                                                                        | (rw [hC.lrel.chg]
                                                                           exact ⟨by omega, hI⟩)
                                                                        | (rw [hC.lrelo.chg]
                                                                           exact ⟨by omega, hI⟩)
                                                                        | (exfalso
                                                                           have q1 := hC.lrel.top
                                                                           have q2 := hC.lrelo.top
                                                                           have q3 := fTop_0 (M := M)
                                                                           omega))
                                                                · first
                                                                   | (exfalso; omega)
                                                                   | (skip
                                                                      refine e_bipush 110 dX12_interest_108 (by decide) rfl ?_
                                                                      refine e_goto 115 dX12_interest_110 (by decide) ?_
                                                                      refine e_iret dX12_interest_115 ?_
                                                                      first
                                                                        | (exact ⟨by omega, hI⟩)
                                                                        | (rw [hC.lrel.chg]
                                                                           exact ⟨by omega, hI⟩)
                                                                        | (rw [hC.lrelo.chg]
                                                                           exact ⟨by omega, hI⟩)
                                                                        | (exfalso
                                                                           have q1 := hC.lrel.top
                                                                           have q2 := hC.lrelo.top
                                                                           have q3 := fTop_0 (M := M)
                                                                           omega)))
                                                          · dsimp only [jpush]
                                                            have hr1 := rChg_rng (loan := loan) (hv := 1 + (to - fr) / 2) hC.rlaw (by omega) (by omega)
                                                            have hr2 := rChg_rng (loan := loan) (hv := 1 + (to - fr) / 2) hC.rolaw (by omega) (by omega)
                                                            first
                                                             | (exfalso; omega)
                                                             | (skip
                                                                refine e_istore (lsn := [(5, _), (0, _), (1, _), (2, _), (3, _), (4, _)]) 102 dX12_interest_100 (by decide) rfl rfl ?_
                                                                refine e_iload 104 dX12_interest_102 rfl rfl ?_
                                                                refine e_iconst 105 dX12_interest_104 rfl ?_
                                                                refine e_icmp_ne 108 113 dX12_interest_105 (by decide) (by decide) (by decide) rfl (fun h => absurd h (by decide)) (fun _ => ?_)
                                                                refine e_bipush 110 dX12_interest_108 (by decide) rfl ?_
                                                                refine e_goto 115 dX12_interest_110 (by decide) ?_
                                                                refine e_iret dX12_interest_115 ?_
                                                                first
                                                                  | (exact ⟨by omega, hI⟩)
                                                                  | (rw [hC.lrel.chg]
                                                                     exact ⟨by omega, hI⟩)
                                                                  | (rw [hC.lrelo.chg]
                                                                     exact ⟨by omega, hI⟩)
                                                                  | (exfalso
                                                                     have q1 := hC.lrel.top
                                                                     have q2 := hC.lrelo.top
                                                                     have q3 := fTop_0 (M := M)
                                                                     omega)))
                                                    · first
                                                       | (exfalso; omega)
                                                       | (skip
                                                          refine e_iconst 84 dX12_interest_83 rfl ?_
                                                          refine e_goto 89 dX12_interest_84 (by decide) ?_
                                                          refine e_iload_n (i := 2) 90 dX12_interest_89 rfl rfl rfl ?_
                                                          refine e_iload 92 dX12_interest_90 rfl rfl ?_
                                                          refine e_iload_n (i := 3) 93 dX12_interest_92 rfl rfl rfl ?_
                                                          refine e_isub 94 dX12_interest_93 rfl ?_
                                                          refine e_callS 97 mt_yX12_halvesOf ms_yX12_halvesOf wd_1484 (by decide) dX12_interest_94 rfl rfl (Nat.le_of_ble_eq_true rfl) (jroom (by decide)) rfl (m_halvesOf (by omega) ?_)
                                                          dsimp only [jpush]
                                                          refine e_callV 100 mt_yX12_interestBy mv_yX12_interestBy wd_1487 (by decide) dX12_interest_97 at_928 jc_12 rfl rfl rfl (Nat.le_of_ble_eq_true rfl) (jroom (by decide)) rfl (m_interestBy (by decide) (by omega) (by omega) hC.rlaw (fun w97 => ?_) (fun w97 => ?_))
                                                          · dsimp only [jpush]
                                                            have hr1 := rChg_rng (loan := loan) (hv := 1 + (to - fr) / 2) hC.rlaw (by omega) (by omega)
                                                            have hr2 := rChg_rng (loan := loan) (hv := 1 + (to - fr) / 2) hC.rolaw (by omega) (by omega)
                                                            first
                                                             | (exfalso; omega)
                                                             | (skip
                                                                refine e_istore (lsn := [(5, _), (0, _), (1, _), (2, _), (3, _), (4, _)]) 102 dX12_interest_100 (by decide) rfl rfl ?_
                                                                refine e_iload 104 dX12_interest_102 rfl rfl ?_
                                                                refine e_iconst 105 dX12_interest_104 rfl ?_
                                                                refine e_icmp_ne 108 113 dX12_interest_105 (by omega) (by decide) (by decide) rfl (fun b105 => ?_) (fun b105 => ?_)
                                                                · first
                                                                   | (exfalso; omega)
                                                                   | (skip
                                                                      refine e_iload 115 dX12_interest_113 rfl rfl ?_
                                                                      refine e_iret dX12_interest_115 ?_
                                                                      first
                                                                        | (exact ⟨by omega, hI⟩)
                                                                        | (rw [hC.lrel.chg]
                                                                           exact ⟨by omega, hI⟩)
                                                                        | (rw [hC.lrelo.chg]
                                                                           exact ⟨by omega, hI⟩)
                                                                        | (exfalso
                                                                           have q1 := hC.lrel.top
                                                                           have q2 := hC.lrelo.top
                                                                           have q3 := fTop_0 (M := M)
                                                                           omega))
                                                                · first
                                                                   | (exfalso; omega)
                                                                   | (skip
                                                                      refine e_bipush 110 dX12_interest_108 (by decide) rfl ?_
                                                                      refine e_goto 115 dX12_interest_110 (by decide) ?_
                                                                      refine e_iret dX12_interest_115 ?_
                                                                      first
                                                                        | (exact ⟨by omega, hI⟩)
                                                                        | (rw [hC.lrel.chg]
                                                                           exact ⟨by omega, hI⟩)
                                                                        | (rw [hC.lrelo.chg]
                                                                           exact ⟨by omega, hI⟩)
                                                                        | (exfalso
                                                                           have q1 := hC.lrel.top
                                                                           have q2 := hC.lrelo.top
                                                                           have q3 := fTop_0 (M := M)
                                                                           omega)))
                                                          · dsimp only [jpush]
                                                            have hr1 := rChg_rng (loan := loan) (hv := 1 + (to - fr) / 2) hC.rlaw (by omega) (by omega)
                                                            have hr2 := rChg_rng (loan := loan) (hv := 1 + (to - fr) / 2) hC.rolaw (by omega) (by omega)
                                                            first
                                                             | (exfalso; omega)
                                                             | (skip
                                                                refine e_istore (lsn := [(5, _), (0, _), (1, _), (2, _), (3, _), (4, _)]) 102 dX12_interest_100 (by decide) rfl rfl ?_
                                                                refine e_iload 104 dX12_interest_102 rfl rfl ?_
                                                                refine e_iconst 105 dX12_interest_104 rfl ?_
                                                                refine e_icmp_ne 108 113 dX12_interest_105 (by decide) (by decide) (by decide) rfl (fun h => absurd h (by decide)) (fun _ => ?_)
                                                                refine e_bipush 110 dX12_interest_108 (by decide) rfl ?_
                                                                refine e_goto 115 dX12_interest_110 (by decide) ?_
                                                                refine e_iret dX12_interest_115 ?_
                                                                first
                                                                  | (exact ⟨by omega, hI⟩)
                                                                  | (rw [hC.lrel.chg]
                                                                     exact ⟨by omega, hI⟩)
                                                                  | (rw [hC.lrelo.chg]
                                                                     exact ⟨by omega, hI⟩)
                                                                  | (exfalso
                                                                     have q1 := hC.lrel.top
                                                                     have q2 := hC.lrelo.top
                                                                     have q3 := fTop_0 (M := M)
                                                                     omega))))
                                              · first
                                                 | (exfalso; omega)
                                                 | (skip
                                                    refine e_iconst 75 dX12_interest_74 rfl ?_
                                                    refine e_goto 100 dX12_interest_75 (by decide) ?_
                                                    refine e_istore (lsn := [(5, _), (0, _), (1, _), (2, _), (3, _), (4, _)]) 102 dX12_interest_100 (by decide) rfl rfl ?_
                                                    refine e_iload 104 dX12_interest_102 rfl rfl ?_
                                                    refine e_iconst 105 dX12_interest_104 rfl ?_
                                                    refine e_icmp_ne 108 113 dX12_interest_105 (by decide) (by decide) (by decide) rfl (fun h => absurd h (by decide)) (fun _ => ?_)
                                                    refine e_bipush 110 dX12_interest_108 (by decide) rfl ?_
                                                    refine e_goto 115 dX12_interest_110 (by decide) ?_
                                                    refine e_iret dX12_interest_115 ?_
                                                    first
                                                      | (exact ⟨by omega, hI⟩)
                                                      | (rw [hC.lrel.chg]
                                                         exact ⟨by omega, hI⟩)
                                                      | (rw [hC.lrelo.chg]
                                                         exact ⟨by omega, hI⟩)
                                                      | (exfalso
                                                         have q1 := hC.lrel.top
                                                         have q2 := hC.lrelo.top
                                                         have q3 := fTop_0 (M := M)
                                                         omega))))
                                  · dsimp only [jpush]
                                    first
                                     | (exfalso; omega)
                                     | (skip
                                        refine e_if_ne 56 59 dX12_interest_53 (by decide) (by decide) rfl (fun h => absurd h (by decide)) (fun _ => ?_)
                                        refine e_bipush 58 dX12_interest_56 (by decide) rfl ?_
                                        refine e_iret dX12_interest_58 ?_
                                        first
                                          | (exact ⟨by omega, hI⟩)
                                          | (rw [hC.lrel.chg]
                                             exact ⟨by omega, hI⟩)
                                          | (rw [hC.lrelo.chg]
                                             exact ⟨by omega, hI⟩)
                                          | (exfalso
                                             have q1 := hC.lrel.top
                                             have q2 := hC.lrelo.top
                                             have q3 := fTop_0 (M := M)
                                             omega)))
                            · dsimp only [jpush]
                              first
                               | (exfalso; omega)
                               | (skip
                                  refine e_if_eq 42 56 dX12_interest_39 (by decide) (by decide) rfl (fun _ => ?_) (fun h => absurd h (by decide))
                                  refine e_bipush 58 dX12_interest_56 (by decide) rfl ?_
                                  refine e_iret dX12_interest_58 ?_
                                  first
                                    | (exact ⟨by omega, hI⟩)
                                    | (rw [hC.lrel.chg]
                                       exact ⟨by omega, hI⟩)
                                    | (rw [hC.lrelo.chg]
                                       exact ⟨by omega, hI⟩)
                                    | (exfalso
                                       have q1 := hC.lrel.top
                                       have q2 := hC.lrelo.top
                                       have q3 := fTop_0 (M := M)
                                       omega)))
                      · dsimp only [jpush]
                        first
                         | (exfalso; omega)
                         | (skip
                            refine e_if_eq 30 56 dX12_interest_27 (by decide) (by decide) rfl (fun _ => ?_) (fun h => absurd h (by decide))
                            refine e_bipush 58 dX12_interest_56 (by decide) rfl ?_
                            refine e_iret dX12_interest_58 ?_
                            first
                              | (exact ⟨by omega, hI⟩)
                              | (rw [hC.lrel.chg]
                                 exact ⟨by omega, hI⟩)
                              | (rw [hC.lrelo.chg]
                                 exact ⟨by omega, hI⟩)
                              | (exfalso
                                 have q1 := hC.lrel.top
                                 have q2 := hC.lrelo.top
                                 have q3 := fTop_0 (M := M)
                                 omega)))
                · dsimp only [jpush]
                  first
                   | (exfalso; omega)
                   | (skip
                      refine e_if_ne 15 18 dX12_interest_12 (by decide) (by decide) rfl (fun h => absurd h (by decide)) (fun _ => ?_)
                      refine e_bipush 17 dX12_interest_15 (by decide) rfl ?_
                      refine e_iret dX12_interest_17 ?_
                      first
                        | (exact ⟨by omega, hI⟩)
                        | (rw [hC.lrel.chg]
                           exact ⟨by omega, hI⟩)
                        | (rw [hC.lrelo.chg]
                           exact ⟨by omega, hI⟩)
                        | (exfalso
                           have q1 := hC.lrel.top
                           have q2 := hC.lrelo.top
                           have q3 := fTop_0 (M := M)
                           omega))
              · dsimp only [jpush]
                refine e_if_ne 77 80 dX11_interest_74 (by decide) (by decide) rfl (fun h => absurd h (by decide)) (fun _ => ?_)
                refine e_bipush 79 dX11_interest_77 (by decide) rfl ?_
                refine e_iret dX11_interest_79 ?_
                refine jCt_of mt_yX12_interest (Nat.le_of_ble_eq_true rfl) (fun X2 => ?_)
                refine e_aload_n (i := 0) 1 dX12_interest_0 rfl rfl rfl ?_
                refine e_iconst 2 dX12_interest_1 rfl ?_
                refine e_put0 (j := 0) 5 fl_12_1 dX12_interest_2 at_928 rfl rfl rfl (by decide) hI.1 rfl ?_
                refine e_iload_n (i := 1) 6 dX12_interest_5 rfl rfl rfl ?_
                refine e_i2l 7 dX12_interest_6 (by omega) rfl ?_
                refine e_lconst0 8 dX12_interest_7 rfl ?_
                refine e_lconst1 9 dX12_interest_8 rfl ?_
                refine e_callS 12 mt_yX12_within ms_yX12_within wd_1390 (by decide) dX12_interest_9 rfl rfl (Nat.le_of_ble_eq_true rfl) (jroom (by decide)) rfl (m_within (by omega) (by omega) (by omega) (fun w9 => ?_) (fun w9 => ?_))
                · dsimp only [jpush]
                  first
                   | (exfalso; omega)
                   | (skip
                      refine e_if_ne 15 18 dX12_interest_12 (by decide) (by decide) rfl (fun _ => ?_) (fun h => absurd h (by decide))
                      refine e_iload_n (i := 2) 19 dX12_interest_18 rfl rfl rfl ?_
                      refine e_i2l 20 dX12_interest_19 (by omega) rfl ?_
                      refine e_lconst1 21 dX12_interest_20 rfl ?_
                      refine e_ldc2 (z := (999)) 24 (ix := 198) wd_1482 (by decide) dX12_interest_21 rfl ?_
                      refine e_callS 27 mt_yX12_within ms_yX12_within wd_1390 (by decide) dX12_interest_24 rfl rfl (Nat.le_of_ble_eq_true rfl) (jroom (by decide)) rfl (m_within (by omega) (by omega) (by omega) (fun w24 => ?_) (fun w24 => ?_))
                      · dsimp only [jpush]
                        first
                         | (exfalso; omega)
                         | (skip
                            refine e_if_eq 30 56 dX12_interest_27 (by decide) (by decide) rfl (fun h => absurd h (by decide)) (fun _ => ?_)
                            refine e_iload_n (i := 3) 31 dX12_interest_30 rfl rfl rfl ?_
                            refine e_i2l 32 dX12_interest_31 (by omega) rfl ?_
                            refine e_lconst0 33 dX12_interest_32 rfl ?_
                            refine e_ldc2 (z := (300)) 36 (ix := 200) wd_1483 (by decide) dX12_interest_33 rfl ?_
                            refine e_callS 39 mt_yX12_within ms_yX12_within wd_1390 (by decide) dX12_interest_36 rfl rfl (Nat.le_of_ble_eq_true rfl) (jroom (by decide)) rfl (m_within (by omega) (by omega) (by omega) (fun w36 => ?_) (fun w36 => ?_))
                            · dsimp only [jpush]
                              first
                               | (exfalso; omega)
                               | (skip
                                  refine e_if_eq 42 56 dX12_interest_39 (by decide) (by decide) rfl (fun h => absurd h (by decide)) (fun _ => ?_)
                                  refine e_iload 44 dX12_interest_42 rfl rfl ?_
                                  refine e_i2l 45 dX12_interest_44 (by omega) rfl ?_
                                  refine e_iload_n (i := 3) 46 dX12_interest_45 rfl rfl rfl ?_
                                  refine e_i2l 47 dX12_interest_46 (by omega) rfl ?_
                                  refine e_ldc2 (z := (300)) 50 (ix := 200) wd_1483 (by decide) dX12_interest_47 rfl ?_
                                  refine e_callS 53 mt_yX12_within ms_yX12_within wd_1390 (by decide) dX12_interest_50 rfl rfl (Nat.le_of_ble_eq_true rfl) (jroom (by decide)) rfl (m_within (by omega) (by omega) (by omega) (fun w50 => ?_) (fun w50 => ?_))
                                  · dsimp only [jpush]
                                    first
                                     | (exfalso; omega)
                                     | (skip
                                        refine e_if_ne 56 59 dX12_interest_53 (by decide) (by decide) rfl (fun _ => ?_) (fun h => absurd h (by decide))
                                        refine e_iload_n (i := 1) 60 dX12_interest_59 rfl rfl rfl ?_
                                        refine e_iconst 61 dX12_interest_60 rfl ?_
                                        refine e_icmp_ne 64 78 dX12_interest_61 (by omega) (by decide) (by decide) rfl (fun b61 => ?_) (fun b61 => ?_)
                                        · first
                                           | (exfalso; omega)
                                           | (skip
                                              refine e_aload_n (i := 0) 79 dX12_interest_78 rfl rfl rfl ?_
                                              refine e_iload_n (i := 1) 80 dX12_interest_79 rfl rfl rfl ?_
                                              refine e_if_ne 83 87 dX12_interest_80 (by omega) (by decide) rfl (fun b80 => ?_) (fun b80 => ?_)
                                              · first
                                                 | (exfalso; omega)
                                                 | (skip
                                                    refine e_bipush 89 dX12_interest_87 (by decide) rfl ?_
                                                    refine e_iload_n (i := 2) 90 dX12_interest_89 rfl rfl rfl ?_
                                                    refine e_iload 92 dX12_interest_90 rfl rfl ?_
                                                    refine e_iload_n (i := 3) 93 dX12_interest_92 rfl rfl rfl ?_
                                                    refine e_isub 94 dX12_interest_93 rfl ?_
                                                    refine e_callS 97 mt_yX12_halvesOf ms_yX12_halvesOf wd_1484 (by decide) dX12_interest_94 rfl rfl (Nat.le_of_ble_eq_true rfl) (jroom (by decide)) rfl (m_halvesOf (by omega) ?_)
                                                    dsimp only [jpush]
                                                    refine e_callV 100 mt_yX12_interestBy mv_yX12_interestBy wd_1487 (by decide) dX12_interest_97 at_928 jc_12 rfl rfl rfl (Nat.le_of_ble_eq_true rfl) (jroom (by decide)) rfl (m_interestBy (by decide) (by omega) (by omega) hC.rolaw (fun w97 => ?_) (fun w97 => ?_))
                                                    · dsimp only [jpush]
                                                      have hr1 := rChg_rng (loan := loan) (hv := 1 + (to - fr) / 2) hC.rlaw (by omega) (by omega)
                                                      have hr2 := rChg_rng (loan := loan) (hv := 1 + (to - fr) / 2) hC.rolaw (by omega) (by omega)
                                                      first
                                                       | (exfalso; omega)
                                                       | (skip
                                                          refine e_istore (lsn := [(5, _), (0, _), (1, _), (2, _), (3, _), (4, _)]) 102 dX12_interest_100 (by decide) rfl rfl ?_
                                                          refine e_iload 104 dX12_interest_102 rfl rfl ?_
                                                          refine e_iconst 105 dX12_interest_104 rfl ?_
                                                          refine e_icmp_ne 108 113 dX12_interest_105 (by omega) (by decide) (by decide) rfl (fun b105 => ?_) (fun b105 => ?_)
                                                          · first
                                                             | (exfalso; omega)
                                                             | (skip
                                                                refine e_iload 115 dX12_interest_113 rfl rfl ?_
                                                                refine e_iret dX12_interest_115 ?_
                                                                first
                                                                  | (exact ⟨by omega, hI⟩)
                                                                  | (rw [hC.lrel.chg]
                                                                     exact ⟨by omega, hI⟩)
                                                                  | (rw [hC.lrelo.chg]
                                                                     exact ⟨by omega, hI⟩)
                                                                  | (exfalso
                                                                     have q1 := hC.lrel.top
                                                                     have q2 := hC.lrelo.top
                                                                     have q3 := fTop_0 (M := M)
                                                                     omega))
                                                          · first
                                                             | (exfalso; omega)
                                                             | (skip
                                                                refine e_bipush 110 dX12_interest_108 (by decide) rfl ?_
                                                                refine e_goto 115 dX12_interest_110 (by decide) ?_
                                                                refine e_iret dX12_interest_115 ?_
                                                                first
                                                                  | (exact ⟨by omega, hI⟩)
                                                                  | (rw [hC.lrel.chg]
                                                                     exact ⟨by omega, hI⟩)
                                                                  | (rw [hC.lrelo.chg]
                                                                     exact ⟨by omega, hI⟩)
                                                                  | (exfalso
                                                                     have q1 := hC.lrel.top
                                                                     have q2 := hC.lrelo.top
                                                                     have q3 := fTop_0 (M := M)
                                                                     omega)))
                                                    · dsimp only [jpush]
                                                      have hr1 := rChg_rng (loan := loan) (hv := 1 + (to - fr) / 2) hC.rlaw (by omega) (by omega)
                                                      have hr2 := rChg_rng (loan := loan) (hv := 1 + (to - fr) / 2) hC.rolaw (by omega) (by omega)
                                                      first
                                                       | (exfalso; omega)
                                                       | (skip
                                                          refine e_istore (lsn := [(5, _), (0, _), (1, _), (2, _), (3, _), (4, _)]) 102 dX12_interest_100 (by decide) rfl rfl ?_
                                                          refine e_iload 104 dX12_interest_102 rfl rfl ?_
                                                          refine e_iconst 105 dX12_interest_104 rfl ?_
                                                          refine e_icmp_ne 108 113 dX12_interest_105 (by decide) (by decide) (by decide) rfl (fun h => absurd h (by decide)) (fun _ => ?_)
                                                          refine e_bipush 110 dX12_interest_108 (by decide) rfl ?_
                                                          refine e_goto 115 dX12_interest_110 (by decide) ?_
                                                          refine e_iret dX12_interest_115 ?_
                                                          first
                                                            | (exact ⟨by omega, hI⟩)
                                                            | (rw [hC.lrel.chg]
                                                               exact ⟨by omega, hI⟩)
                                                            | (rw [hC.lrelo.chg]
                                                               exact ⟨by omega, hI⟩)
                                                            | (exfalso
                                                               have q1 := hC.lrel.top
                                                               have q2 := hC.lrelo.top
                                                               have q3 := fTop_0 (M := M)
                                                               omega)))
                                              · first
                                                 | (exfalso; omega)
                                                 | (skip
                                                    refine e_iconst 84 dX12_interest_83 rfl ?_
                                                    refine e_goto 89 dX12_interest_84 (by decide) ?_
                                                    refine e_iload_n (i := 2) 90 dX12_interest_89 rfl rfl rfl ?_
                                                    refine e_iload 92 dX12_interest_90 rfl rfl ?_
                                                    refine e_iload_n (i := 3) 93 dX12_interest_92 rfl rfl rfl ?_
                                                    refine e_isub 94 dX12_interest_93 rfl ?_
                                                    refine e_callS 97 mt_yX12_halvesOf ms_yX12_halvesOf wd_1484 (by decide) dX12_interest_94 rfl rfl (Nat.le_of_ble_eq_true rfl) (jroom (by decide)) rfl (m_halvesOf (by omega) ?_)
                                                    dsimp only [jpush]
                                                    refine e_callV 100 mt_yX12_interestBy mv_yX12_interestBy wd_1487 (by decide) dX12_interest_97 at_928 jc_12 rfl rfl rfl (Nat.le_of_ble_eq_true rfl) (jroom (by decide)) rfl (m_interestBy (by decide) (by omega) (by omega) hC.rlaw (fun w97 => ?_) (fun w97 => ?_))
                                                    · dsimp only [jpush]
                                                      have hr1 := rChg_rng (loan := loan) (hv := 1 + (to - fr) / 2) hC.rlaw (by omega) (by omega)
                                                      have hr2 := rChg_rng (loan := loan) (hv := 1 + (to - fr) / 2) hC.rolaw (by omega) (by omega)
                                                      first
                                                       | (exfalso; omega)
                                                       | (skip
                                                          refine e_istore (lsn := [(5, _), (0, _), (1, _), (2, _), (3, _), (4, _)]) 102 dX12_interest_100 (by decide) rfl rfl ?_
                                                          refine e_iload 104 dX12_interest_102 rfl rfl ?_
                                                          refine e_iconst 105 dX12_interest_104 rfl ?_
                                                          refine e_icmp_ne 108 113 dX12_interest_105 (by omega) (by decide) (by decide) rfl (fun b105 => ?_) (fun b105 => ?_)
                                                          · first
                                                             | (exfalso; omega)
                                                             | (skip
                                                                refine e_iload 115 dX12_interest_113 rfl rfl ?_
                                                                refine e_iret dX12_interest_115 ?_
                                                                first
                                                                  | (exact ⟨by omega, hI⟩)
                                                                  | (rw [hC.lrel.chg]
                                                                     exact ⟨by omega, hI⟩)
                                                                  | (rw [hC.lrelo.chg]
                                                                     exact ⟨by omega, hI⟩)
                                                                  | (exfalso
                                                                     have q1 := hC.lrel.top
                                                                     have q2 := hC.lrelo.top
                                                                     have q3 := fTop_0 (M := M)
                                                                     omega))
                                                          · first
                                                             | (exfalso; omega)
                                                             | (skip
                                                                refine e_bipush 110 dX12_interest_108 (by decide) rfl ?_
                                                                refine e_goto 115 dX12_interest_110 (by decide) ?_
                                                                refine e_iret dX12_interest_115 ?_
                                                                first
                                                                  | (exact ⟨by omega, hI⟩)
                                                                  | (rw [hC.lrel.chg]
                                                                     exact ⟨by omega, hI⟩)
                                                                  | (rw [hC.lrelo.chg]
                                                                     exact ⟨by omega, hI⟩)
                                                                  | (exfalso
                                                                     have q1 := hC.lrel.top
                                                                     have q2 := hC.lrelo.top
                                                                     have q3 := fTop_0 (M := M)
                                                                     omega)))
                                                    · dsimp only [jpush]
                                                      have hr1 := rChg_rng (loan := loan) (hv := 1 + (to - fr) / 2) hC.rlaw (by omega) (by omega)
                                                      have hr2 := rChg_rng (loan := loan) (hv := 1 + (to - fr) / 2) hC.rolaw (by omega) (by omega)
                                                      first
                                                       | (exfalso; omega)
                                                       | (skip
                                                          refine e_istore (lsn := [(5, _), (0, _), (1, _), (2, _), (3, _), (4, _)]) 102 dX12_interest_100 (by decide) rfl rfl ?_
                                                          refine e_iload 104 dX12_interest_102 rfl rfl ?_
                                                          refine e_iconst 105 dX12_interest_104 rfl ?_
                                                          refine e_icmp_ne 108 113 dX12_interest_105 (by decide) (by decide) (by decide) rfl (fun h => absurd h (by decide)) (fun _ => ?_)
                                                          refine e_bipush 110 dX12_interest_108 (by decide) rfl ?_
                                                          refine e_goto 115 dX12_interest_110 (by decide) ?_
                                                          refine e_iret dX12_interest_115 ?_
                                                          first
                                                            | (exact ⟨by omega, hI⟩)
                                                            | (rw [hC.lrel.chg]
                                                               exact ⟨by omega, hI⟩)
                                                            | (rw [hC.lrelo.chg]
                                                               exact ⟨by omega, hI⟩)
                                                            | (exfalso
                                                               have q1 := hC.lrel.top
                                                               have q2 := hC.lrelo.top
                                                               have q3 := fTop_0 (M := M)
                                                               omega))))
                                        · first
                                           | (exfalso; omega)
                                           | (skip
                                              refine e_aload_n (i := 0) 65 dX12_interest_64 rfl rfl rfl ?_
                                              refine e_getr (j := 1) 68 fl_12_13 dX12_interest_65 at_928 rfl rfl tp_928_1 rfl ?_
                                              refine e_bipush 70 dX12_interest_68 (by decide) rfl ?_
                                              refine e_iald 71 dX12_interest_70 ar_929 (by decide) (by decide) rfl (fun r70 => ?_)
                                              refine e_if_ne 74 78 dX12_interest_71 (by omega) (by decide) rfl (fun b71 => ?_) (fun b71 => ?_)
                                              · first
                                                 | (exfalso; omega)
                                                 | (skip
                                                    refine e_aload_n (i := 0) 79 dX12_interest_78 rfl rfl rfl ?_
                                                    refine e_iload_n (i := 1) 80 dX12_interest_79 rfl rfl rfl ?_
                                                    refine e_if_ne 83 87 dX12_interest_80 (by omega) (by decide) rfl (fun b80 => ?_) (fun b80 => ?_)
                                                    · first
                                                       | (exfalso; omega)
                                                       | (skip
                                                          refine e_bipush 89 dX12_interest_87 (by decide) rfl ?_
                                                          refine e_iload_n (i := 2) 90 dX12_interest_89 rfl rfl rfl ?_
                                                          refine e_iload 92 dX12_interest_90 rfl rfl ?_
                                                          refine e_iload_n (i := 3) 93 dX12_interest_92 rfl rfl rfl ?_
                                                          refine e_isub 94 dX12_interest_93 rfl ?_
                                                          refine e_callS 97 mt_yX12_halvesOf ms_yX12_halvesOf wd_1484 (by decide) dX12_interest_94 rfl rfl (Nat.le_of_ble_eq_true rfl) (jroom (by decide)) rfl (m_halvesOf (by omega) ?_)
                                                          dsimp only [jpush]
                                                          refine e_callV 100 mt_yX12_interestBy mv_yX12_interestBy wd_1487 (by decide) dX12_interest_97 at_928 jc_12 rfl rfl rfl (Nat.le_of_ble_eq_true rfl) (jroom (by decide)) rfl (m_interestBy (by decide) (by omega) (by omega) hC.rolaw (fun w97 => ?_) (fun w97 => ?_))
                                                          · dsimp only [jpush]
                                                            have hr1 := rChg_rng (loan := loan) (hv := 1 + (to - fr) / 2) hC.rlaw (by omega) (by omega)
                                                            have hr2 := rChg_rng (loan := loan) (hv := 1 + (to - fr) / 2) hC.rolaw (by omega) (by omega)
                                                            first
                                                             | (exfalso; omega)
                                                             | (skip
                                                                refine e_istore (lsn := [(5, _), (0, _), (1, _), (2, _), (3, _), (4, _)]) 102 dX12_interest_100 (by decide) rfl rfl ?_
                                                                refine e_iload 104 dX12_interest_102 rfl rfl ?_
                                                                refine e_iconst 105 dX12_interest_104 rfl ?_
                                                                refine e_icmp_ne 108 113 dX12_interest_105 (by omega) (by decide) (by decide) rfl (fun b105 => ?_) (fun b105 => ?_)
                                                                · first
                                                                   | (exfalso; omega)
                                                                   | (skip
                                                                      refine e_iload 115 dX12_interest_113 rfl rfl ?_
                                                                      refine e_iret dX12_interest_115 ?_
                                                                      first
                                                                        | (exact ⟨by omega, hI⟩)
                                                                        | (rw [hC.lrel.chg]
                                                                           exact ⟨by omega, hI⟩)
                                                                        | (rw [hC.lrelo.chg]
                                                                           exact ⟨by omega, hI⟩)
                                                                        | (exfalso
                                                                           have q1 := hC.lrel.top
                                                                           have q2 := hC.lrelo.top
                                                                           have q3 := fTop_0 (M := M)
                                                                           omega))
                                                                · first
                                                                   | (exfalso; omega)
                                                                   | (skip
                                                                      refine e_bipush 110 dX12_interest_108 (by decide) rfl ?_
                                                                      refine e_goto 115 dX12_interest_110 (by decide) ?_
                                                                      refine e_iret dX12_interest_115 ?_
                                                                      first
                                                                        | (exact ⟨by omega, hI⟩)
                                                                        | (rw [hC.lrel.chg]
                                                                           exact ⟨by omega, hI⟩)
                                                                        | (rw [hC.lrelo.chg]
                                                                           exact ⟨by omega, hI⟩)
                                                                        | (exfalso
                                                                           have q1 := hC.lrel.top
                                                                           have q2 := hC.lrelo.top
                                                                           have q3 := fTop_0 (M := M)
                                                                           omega)))
                                                          · dsimp only [jpush]
                                                            have hr1 := rChg_rng (loan := loan) (hv := 1 + (to - fr) / 2) hC.rlaw (by omega) (by omega)
                                                            have hr2 := rChg_rng (loan := loan) (hv := 1 + (to - fr) / 2) hC.rolaw (by omega) (by omega)
                                                            first
                                                             | (exfalso; omega)
                                                             | (skip
                                                                refine e_istore (lsn := [(5, _), (0, _), (1, _), (2, _), (3, _), (4, _)]) 102 dX12_interest_100 (by decide) rfl rfl ?_
                                                                refine e_iload 104 dX12_interest_102 rfl rfl ?_
                                                                refine e_iconst 105 dX12_interest_104 rfl ?_
                                                                refine e_icmp_ne 108 113 dX12_interest_105 (by decide) (by decide) (by decide) rfl (fun h => absurd h (by decide)) (fun _ => ?_)
                                                                refine e_bipush 110 dX12_interest_108 (by decide) rfl ?_
                                                                refine e_goto 115 dX12_interest_110 (by decide) ?_
                                                                refine e_iret dX12_interest_115 ?_
                                                                first
                                                                  | (exact ⟨by omega, hI⟩)
                                                                  | (rw [hC.lrel.chg]
                                                                     exact ⟨by omega, hI⟩)
                                                                  | (rw [hC.lrelo.chg]
                                                                     exact ⟨by omega, hI⟩)
                                                                  | (exfalso
                                                                     have q1 := hC.lrel.top
                                                                     have q2 := hC.lrelo.top
                                                                     have q3 := fTop_0 (M := M)
                                                                     omega)))
                                                    · first
                                                       | (exfalso; omega)
                                                       | (skip
                                                          refine e_iconst 84 dX12_interest_83 rfl ?_
                                                          refine e_goto 89 dX12_interest_84 (by decide) ?_
                                                          refine e_iload_n (i := 2) 90 dX12_interest_89 rfl rfl rfl ?_
                                                          refine e_iload 92 dX12_interest_90 rfl rfl ?_
                                                          refine e_iload_n (i := 3) 93 dX12_interest_92 rfl rfl rfl ?_
                                                          refine e_isub 94 dX12_interest_93 rfl ?_
                                                          refine e_callS 97 mt_yX12_halvesOf ms_yX12_halvesOf wd_1484 (by decide) dX12_interest_94 rfl rfl (Nat.le_of_ble_eq_true rfl) (jroom (by decide)) rfl (m_halvesOf (by omega) ?_)
                                                          dsimp only [jpush]
                                                          refine e_callV 100 mt_yX12_interestBy mv_yX12_interestBy wd_1487 (by decide) dX12_interest_97 at_928 jc_12 rfl rfl rfl (Nat.le_of_ble_eq_true rfl) (jroom (by decide)) rfl (m_interestBy (by decide) (by omega) (by omega) hC.rlaw (fun w97 => ?_) (fun w97 => ?_))
                                                          · dsimp only [jpush]
                                                            have hr1 := rChg_rng (loan := loan) (hv := 1 + (to - fr) / 2) hC.rlaw (by omega) (by omega)
                                                            have hr2 := rChg_rng (loan := loan) (hv := 1 + (to - fr) / 2) hC.rolaw (by omega) (by omega)
                                                            first
                                                             | (exfalso; omega)
                                                             | (skip
                                                                refine e_istore (lsn := [(5, _), (0, _), (1, _), (2, _), (3, _), (4, _)]) 102 dX12_interest_100 (by decide) rfl rfl ?_
                                                                refine e_iload 104 dX12_interest_102 rfl rfl ?_
                                                                refine e_iconst 105 dX12_interest_104 rfl ?_
                                                                refine e_icmp_ne 108 113 dX12_interest_105 (by omega) (by decide) (by decide) rfl (fun b105 => ?_) (fun b105 => ?_)
                                                                · first
                                                                   | (exfalso; omega)
                                                                   | (skip
                                                                      refine e_iload 115 dX12_interest_113 rfl rfl ?_
                                                                      refine e_iret dX12_interest_115 ?_
                                                                      first
                                                                        | (exact ⟨by omega, hI⟩)
                                                                        | (rw [hC.lrel.chg]
                                                                           exact ⟨by omega, hI⟩)
                                                                        | (rw [hC.lrelo.chg]
                                                                           exact ⟨by omega, hI⟩)
                                                                        | (exfalso
                                                                           have q1 := hC.lrel.top
                                                                           have q2 := hC.lrelo.top
                                                                           have q3 := fTop_0 (M := M)
                                                                           omega))
                                                                · first
                                                                   | (exfalso; omega)
                                                                   | (skip
                                                                      refine e_bipush 110 dX12_interest_108 (by decide) rfl ?_
                                                                      refine e_goto 115 dX12_interest_110 (by decide) ?_
                                                                      refine e_iret dX12_interest_115 ?_
                                                                      first
                                                                        | (exact ⟨by omega, hI⟩)
                                                                        | (rw [hC.lrel.chg]
                                                                           exact ⟨by omega, hI⟩)
                                                                        | (rw [hC.lrelo.chg]
                                                                           exact ⟨by omega, hI⟩)
                                                                        | (exfalso
                                                                           have q1 := hC.lrel.top
                                                                           have q2 := hC.lrelo.top
                                                                           have q3 := fTop_0 (M := M)
                                                                           omega)))
                                                          · dsimp only [jpush]
                                                            have hr1 := rChg_rng (loan := loan) (hv := 1 + (to - fr) / 2) hC.rlaw (by omega) (by omega)
                                                            have hr2 := rChg_rng (loan := loan) (hv := 1 + (to - fr) / 2) hC.rolaw (by omega) (by omega)
                                                            first
                                                             | (exfalso; omega)
                                                             | (skip
                                                                refine e_istore (lsn := [(5, _), (0, _), (1, _), (2, _), (3, _), (4, _)]) 102 dX12_interest_100 (by decide) rfl rfl ?_
                                                                refine e_iload 104 dX12_interest_102 rfl rfl ?_
                                                                refine e_iconst 105 dX12_interest_104 rfl ?_
                                                                refine e_icmp_ne 108 113 dX12_interest_105 (by decide) (by decide) (by decide) rfl (fun h => absurd h (by decide)) (fun _ => ?_)
                                                                refine e_bipush 110 dX12_interest_108 (by decide) rfl ?_
                                                                refine e_goto 115 dX12_interest_110 (by decide) ?_
                                                                refine e_iret dX12_interest_115 ?_
                                                                first
                                                                  | (exact ⟨by omega, hI⟩)
                                                                  | (rw [hC.lrel.chg]
                                                                     exact ⟨by omega, hI⟩)
                                                                  | (rw [hC.lrelo.chg]
                                                                     exact ⟨by omega, hI⟩)
                                                                  | (exfalso
                                                                     have q1 := hC.lrel.top
                                                                     have q2 := hC.lrelo.top
                                                                     have q3 := fTop_0 (M := M)
                                                                     omega))))
                                              · first
                                                 | (exfalso; omega)
                                                 | (skip
                                                    refine e_iconst 75 dX12_interest_74 rfl ?_
                                                    refine e_goto 100 dX12_interest_75 (by decide) ?_
                                                    refine e_istore (lsn := [(5, _), (0, _), (1, _), (2, _), (3, _), (4, _)]) 102 dX12_interest_100 (by decide) rfl rfl ?_
                                                    refine e_iload 104 dX12_interest_102 rfl rfl ?_
                                                    refine e_iconst 105 dX12_interest_104 rfl ?_
                                                    refine e_icmp_ne 108 113 dX12_interest_105 (by decide) (by decide) (by decide) rfl (fun h => absurd h (by decide)) (fun _ => ?_)
                                                    refine e_bipush 110 dX12_interest_108 (by decide) rfl ?_
                                                    refine e_goto 115 dX12_interest_110 (by decide) ?_
                                                    refine e_iret dX12_interest_115 ?_
                                                    first
                                                      | (exact ⟨by omega, hI⟩)
                                                      | (rw [hC.lrel.chg]
                                                         exact ⟨by omega, hI⟩)
                                                      | (rw [hC.lrelo.chg]
                                                         exact ⟨by omega, hI⟩)
                                                      | (exfalso
                                                         have q1 := hC.lrel.top
                                                         have q2 := hC.lrelo.top
                                                         have q3 := fTop_0 (M := M)
                                                         omega))))
                                  · dsimp only [jpush]
                                    first
                                     | (exfalso; omega)
                                     | (skip
                                        refine e_if_ne 56 59 dX12_interest_53 (by decide) (by decide) rfl (fun h => absurd h (by decide)) (fun _ => ?_)
                                        refine e_bipush 58 dX12_interest_56 (by decide) rfl ?_
                                        refine e_iret dX12_interest_58 ?_
                                        first
                                          | (exact ⟨by omega, hI⟩)
                                          | (rw [hC.lrel.chg]
                                             exact ⟨by omega, hI⟩)
                                          | (rw [hC.lrelo.chg]
                                             exact ⟨by omega, hI⟩)
                                          | (exfalso
                                             have q1 := hC.lrel.top
                                             have q2 := hC.lrelo.top
                                             have q3 := fTop_0 (M := M)
                                             omega)))
                            · dsimp only [jpush]
                              first
                               | (exfalso; omega)
                               | (skip
                                  refine e_if_eq 42 56 dX12_interest_39 (by decide) (by decide) rfl (fun _ => ?_) (fun h => absurd h (by decide))
                                  refine e_bipush 58 dX12_interest_56 (by decide) rfl ?_
                                  refine e_iret dX12_interest_58 ?_
                                  first
                                    | (exact ⟨by omega, hI⟩)
                                    | (rw [hC.lrel.chg]
                                       exact ⟨by omega, hI⟩)
                                    | (rw [hC.lrelo.chg]
                                       exact ⟨by omega, hI⟩)
                                    | (exfalso
                                       have q1 := hC.lrel.top
                                       have q2 := hC.lrelo.top
                                       have q3 := fTop_0 (M := M)
                                       omega)))
                      · dsimp only [jpush]
                        first
                         | (exfalso; omega)
                         | (skip
                            refine e_if_eq 30 56 dX12_interest_27 (by decide) (by decide) rfl (fun _ => ?_) (fun h => absurd h (by decide))
                            refine e_bipush 58 dX12_interest_56 (by decide) rfl ?_
                            refine e_iret dX12_interest_58 ?_
                            first
                              | (exact ⟨by omega, hI⟩)
                              | (rw [hC.lrel.chg]
                                 exact ⟨by omega, hI⟩)
                              | (rw [hC.lrelo.chg]
                                 exact ⟨by omega, hI⟩)
                              | (exfalso
                                 have q1 := hC.lrel.top
                                 have q2 := hC.lrelo.top
                                 have q3 := fTop_0 (M := M)
                                 omega)))
                · dsimp only [jpush]
                  first
                   | (exfalso; omega)
                   | (skip
                      refine e_if_ne 15 18 dX12_interest_12 (by decide) (by decide) rfl (fun h => absurd h (by decide)) (fun _ => ?_)
                      refine e_bipush 17 dX12_interest_15 (by decide) rfl ?_
                      refine e_iret dX12_interest_17 ?_
                      first
                        | (exact ⟨by omega, hI⟩)
                        | (rw [hC.lrel.chg]
                           exact ⟨by omega, hI⟩)
                        | (rw [hC.lrelo.chg]
                           exact ⟨by omega, hI⟩)
                        | (exfalso
                           have q1 := hC.lrel.top
                           have q2 := hC.lrelo.top
                           have q3 := fTop_0 (M := M)
                           omega))
          · dsimp only [jpush]
            refine e_if_ne 42 45 dX11_interest_39 (by decide) (by decide) rfl (fun h => absurd h (by decide)) (fun _ => ?_)
            refine e_bipush 44 dX11_interest_42 (by decide) rfl ?_
            refine e_iret dX11_interest_44 ?_
            refine jCt_of mt_yX12_interest (Nat.le_of_ble_eq_true rfl) (fun X2 => ?_)
            refine e_aload_n (i := 0) 1 dX12_interest_0 rfl rfl rfl ?_
            refine e_iconst 2 dX12_interest_1 rfl ?_
            refine e_put0 (j := 0) 5 fl_12_1 dX12_interest_2 at_928 rfl rfl rfl (by decide) hI.1 rfl ?_
            refine e_iload_n (i := 1) 6 dX12_interest_5 rfl rfl rfl ?_
            refine e_i2l 7 dX12_interest_6 (by omega) rfl ?_
            refine e_lconst0 8 dX12_interest_7 rfl ?_
            refine e_lconst1 9 dX12_interest_8 rfl ?_
            refine e_callS 12 mt_yX12_within ms_yX12_within wd_1390 (by decide) dX12_interest_9 rfl rfl (Nat.le_of_ble_eq_true rfl) (jroom (by decide)) rfl (m_within (by omega) (by omega) (by omega) (fun w9 => ?_) (fun w9 => ?_))
            · dsimp only [jpush]
              first
               | (exfalso; omega)
               | (skip
                  refine e_if_ne 15 18 dX12_interest_12 (by decide) (by decide) rfl (fun _ => ?_) (fun h => absurd h (by decide))
                  refine e_iload_n (i := 2) 19 dX12_interest_18 rfl rfl rfl ?_
                  refine e_i2l 20 dX12_interest_19 (by omega) rfl ?_
                  refine e_lconst1 21 dX12_interest_20 rfl ?_
                  refine e_ldc2 (z := (999)) 24 (ix := 198) wd_1482 (by decide) dX12_interest_21 rfl ?_
                  refine e_callS 27 mt_yX12_within ms_yX12_within wd_1390 (by decide) dX12_interest_24 rfl rfl (Nat.le_of_ble_eq_true rfl) (jroom (by decide)) rfl (m_within (by omega) (by omega) (by omega) (fun w24 => ?_) (fun w24 => ?_))
                  · dsimp only [jpush]
                    first
                     | (exfalso; omega)
                     | (skip
                        refine e_if_eq 30 56 dX12_interest_27 (by decide) (by decide) rfl (fun h => absurd h (by decide)) (fun _ => ?_)
                        refine e_iload_n (i := 3) 31 dX12_interest_30 rfl rfl rfl ?_
                        refine e_i2l 32 dX12_interest_31 (by omega) rfl ?_
                        refine e_lconst0 33 dX12_interest_32 rfl ?_
                        refine e_ldc2 (z := (300)) 36 (ix := 200) wd_1483 (by decide) dX12_interest_33 rfl ?_
                        refine e_callS 39 mt_yX12_within ms_yX12_within wd_1390 (by decide) dX12_interest_36 rfl rfl (Nat.le_of_ble_eq_true rfl) (jroom (by decide)) rfl (m_within (by omega) (by omega) (by omega) (fun w36 => ?_) (fun w36 => ?_))
                        · dsimp only [jpush]
                          first
                           | (exfalso; omega)
                           | (skip
                              refine e_if_eq 42 56 dX12_interest_39 (by decide) (by decide) rfl (fun h => absurd h (by decide)) (fun _ => ?_)
                              refine e_iload 44 dX12_interest_42 rfl rfl ?_
                              refine e_i2l 45 dX12_interest_44 (by omega) rfl ?_
                              refine e_iload_n (i := 3) 46 dX12_interest_45 rfl rfl rfl ?_
                              refine e_i2l 47 dX12_interest_46 (by omega) rfl ?_
                              refine e_ldc2 (z := (300)) 50 (ix := 200) wd_1483 (by decide) dX12_interest_47 rfl ?_
                              refine e_callS 53 mt_yX12_within ms_yX12_within wd_1390 (by decide) dX12_interest_50 rfl rfl (Nat.le_of_ble_eq_true rfl) (jroom (by decide)) rfl (m_within (by omega) (by omega) (by omega) (fun w50 => ?_) (fun w50 => ?_))
                              · dsimp only [jpush]
                                first
                                 | (exfalso; omega)
                                 | (skip
                                    refine e_if_ne 56 59 dX12_interest_53 (by decide) (by decide) rfl (fun _ => ?_) (fun h => absurd h (by decide))
                                    refine e_iload_n (i := 1) 60 dX12_interest_59 rfl rfl rfl ?_
                                    refine e_iconst 61 dX12_interest_60 rfl ?_
                                    refine e_icmp_ne 64 78 dX12_interest_61 (by omega) (by decide) (by decide) rfl (fun b61 => ?_) (fun b61 => ?_)
                                    · first
                                       | (exfalso; omega)
                                       | (skip
                                          refine e_aload_n (i := 0) 79 dX12_interest_78 rfl rfl rfl ?_
                                          refine e_iload_n (i := 1) 80 dX12_interest_79 rfl rfl rfl ?_
                                          refine e_if_ne 83 87 dX12_interest_80 (by omega) (by decide) rfl (fun b80 => ?_) (fun b80 => ?_)
                                          · first
                                             | (exfalso; omega)
                                             | (skip
                                                refine e_bipush 89 dX12_interest_87 (by decide) rfl ?_
                                                refine e_iload_n (i := 2) 90 dX12_interest_89 rfl rfl rfl ?_
                                                refine e_iload 92 dX12_interest_90 rfl rfl ?_
                                                refine e_iload_n (i := 3) 93 dX12_interest_92 rfl rfl rfl ?_
                                                refine e_isub 94 dX12_interest_93 rfl ?_
                                                refine e_callS 97 mt_yX12_halvesOf ms_yX12_halvesOf wd_1484 (by decide) dX12_interest_94 rfl rfl (Nat.le_of_ble_eq_true rfl) (jroom (by decide)) rfl (m_halvesOf (by omega) ?_)
                                                dsimp only [jpush]
                                                refine e_callV 100 mt_yX12_interestBy mv_yX12_interestBy wd_1487 (by decide) dX12_interest_97 at_928 jc_12 rfl rfl rfl (Nat.le_of_ble_eq_true rfl) (jroom (by decide)) rfl (m_interestBy (by decide) (by omega) (by omega) hC.rolaw (fun w97 => ?_) (fun w97 => ?_))
                                                · dsimp only [jpush]
                                                  have hr1 := rChg_rng (loan := loan) (hv := 1 + (to - fr) / 2) hC.rlaw (by omega) (by omega)
                                                  have hr2 := rChg_rng (loan := loan) (hv := 1 + (to - fr) / 2) hC.rolaw (by omega) (by omega)
                                                  first
                                                   | (exfalso; omega)
                                                   | (skip
                                                      refine e_istore (lsn := [(5, _), (0, _), (1, _), (2, _), (3, _), (4, _)]) 102 dX12_interest_100 (by decide) rfl rfl ?_
                                                      refine e_iload 104 dX12_interest_102 rfl rfl ?_
                                                      refine e_iconst 105 dX12_interest_104 rfl ?_
                                                      refine e_icmp_ne 108 113 dX12_interest_105 (by omega) (by decide) (by decide) rfl (fun b105 => ?_) (fun b105 => ?_)
                                                      · first
                                                         | (exfalso; omega)
                                                         | (skip
                                                            refine e_iload 115 dX12_interest_113 rfl rfl ?_
                                                            refine e_iret dX12_interest_115 ?_
                                                            first
                                                              | (exact ⟨by omega, hI⟩)
                                                              | (rw [hC.lrel.chg]
                                                                 exact ⟨by omega, hI⟩)
                                                              | (rw [hC.lrelo.chg]
                                                                 exact ⟨by omega, hI⟩)
                                                              | (exfalso
                                                                 have q1 := hC.lrel.top
                                                                 have q2 := hC.lrelo.top
                                                                 have q3 := fTop_0 (M := M)
                                                                 omega))
                                                      · first
                                                         | (exfalso; omega)
                                                         | (skip
                                                            refine e_bipush 110 dX12_interest_108 (by decide) rfl ?_
                                                            refine e_goto 115 dX12_interest_110 (by decide) ?_
                                                            refine e_iret dX12_interest_115 ?_
                                                            first
                                                              | (exact ⟨by omega, hI⟩)
                                                              | (rw [hC.lrel.chg]
                                                                 exact ⟨by omega, hI⟩)
                                                              | (rw [hC.lrelo.chg]
                                                                 exact ⟨by omega, hI⟩)
                                                              | (exfalso
                                                                 have q1 := hC.lrel.top
                                                                 have q2 := hC.lrelo.top
                                                                 have q3 := fTop_0 (M := M)
                                                                 omega)))
                                                · dsimp only [jpush]
                                                  have hr1 := rChg_rng (loan := loan) (hv := 1 + (to - fr) / 2) hC.rlaw (by omega) (by omega)
                                                  have hr2 := rChg_rng (loan := loan) (hv := 1 + (to - fr) / 2) hC.rolaw (by omega) (by omega)
                                                  first
                                                   | (exfalso; omega)
                                                   | (skip
                                                      refine e_istore (lsn := [(5, _), (0, _), (1, _), (2, _), (3, _), (4, _)]) 102 dX12_interest_100 (by decide) rfl rfl ?_
                                                      refine e_iload 104 dX12_interest_102 rfl rfl ?_
                                                      refine e_iconst 105 dX12_interest_104 rfl ?_
                                                      refine e_icmp_ne 108 113 dX12_interest_105 (by decide) (by decide) (by decide) rfl (fun h => absurd h (by decide)) (fun _ => ?_)
                                                      refine e_bipush 110 dX12_interest_108 (by decide) rfl ?_
                                                      refine e_goto 115 dX12_interest_110 (by decide) ?_
                                                      refine e_iret dX12_interest_115 ?_
                                                      first
                                                        | (exact ⟨by omega, hI⟩)
                                                        | (rw [hC.lrel.chg]
                                                           exact ⟨by omega, hI⟩)
                                                        | (rw [hC.lrelo.chg]
                                                           exact ⟨by omega, hI⟩)
                                                        | (exfalso
                                                           have q1 := hC.lrel.top
                                                           have q2 := hC.lrelo.top
                                                           have q3 := fTop_0 (M := M)
                                                           omega)))
                                          · first
                                             | (exfalso; omega)
                                             | (skip
                                                refine e_iconst 84 dX12_interest_83 rfl ?_
                                                refine e_goto 89 dX12_interest_84 (by decide) ?_
                                                refine e_iload_n (i := 2) 90 dX12_interest_89 rfl rfl rfl ?_
                                                refine e_iload 92 dX12_interest_90 rfl rfl ?_
                                                refine e_iload_n (i := 3) 93 dX12_interest_92 rfl rfl rfl ?_
                                                refine e_isub 94 dX12_interest_93 rfl ?_
                                                refine e_callS 97 mt_yX12_halvesOf ms_yX12_halvesOf wd_1484 (by decide) dX12_interest_94 rfl rfl (Nat.le_of_ble_eq_true rfl) (jroom (by decide)) rfl (m_halvesOf (by omega) ?_)
                                                dsimp only [jpush]
                                                refine e_callV 100 mt_yX12_interestBy mv_yX12_interestBy wd_1487 (by decide) dX12_interest_97 at_928 jc_12 rfl rfl rfl (Nat.le_of_ble_eq_true rfl) (jroom (by decide)) rfl (m_interestBy (by decide) (by omega) (by omega) hC.rlaw (fun w97 => ?_) (fun w97 => ?_))
                                                · dsimp only [jpush]
                                                  have hr1 := rChg_rng (loan := loan) (hv := 1 + (to - fr) / 2) hC.rlaw (by omega) (by omega)
                                                  have hr2 := rChg_rng (loan := loan) (hv := 1 + (to - fr) / 2) hC.rolaw (by omega) (by omega)
                                                  first
                                                   | (exfalso; omega)
                                                   | (skip
                                                      refine e_istore (lsn := [(5, _), (0, _), (1, _), (2, _), (3, _), (4, _)]) 102 dX12_interest_100 (by decide) rfl rfl ?_
                                                      refine e_iload 104 dX12_interest_102 rfl rfl ?_
                                                      refine e_iconst 105 dX12_interest_104 rfl ?_
                                                      refine e_icmp_ne 108 113 dX12_interest_105 (by omega) (by decide) (by decide) rfl (fun b105 => ?_) (fun b105 => ?_)
                                                      · first
                                                         | (exfalso; omega)
                                                         | (skip
                                                            refine e_iload 115 dX12_interest_113 rfl rfl ?_
                                                            refine e_iret dX12_interest_115 ?_
                                                            first
                                                              | (exact ⟨by omega, hI⟩)
                                                              | (rw [hC.lrel.chg]
                                                                 exact ⟨by omega, hI⟩)
                                                              | (rw [hC.lrelo.chg]
                                                                 exact ⟨by omega, hI⟩)
                                                              | (exfalso
                                                                 have q1 := hC.lrel.top
                                                                 have q2 := hC.lrelo.top
                                                                 have q3 := fTop_0 (M := M)
                                                                 omega))
                                                      · first
                                                         | (exfalso; omega)
                                                         | (skip
                                                            refine e_bipush 110 dX12_interest_108 (by decide) rfl ?_
                                                            refine e_goto 115 dX12_interest_110 (by decide) ?_
                                                            refine e_iret dX12_interest_115 ?_
                                                            first
                                                              | (exact ⟨by omega, hI⟩)
                                                              | (rw [hC.lrel.chg]
                                                                 exact ⟨by omega, hI⟩)
                                                              | (rw [hC.lrelo.chg]
                                                                 exact ⟨by omega, hI⟩)
                                                              | (exfalso
                                                                 have q1 := hC.lrel.top
                                                                 have q2 := hC.lrelo.top
                                                                 have q3 := fTop_0 (M := M)
                                                                 omega)))
                                                · dsimp only [jpush]
                                                  have hr1 := rChg_rng (loan := loan) (hv := 1 + (to - fr) / 2) hC.rlaw (by omega) (by omega)
                                                  have hr2 := rChg_rng (loan := loan) (hv := 1 + (to - fr) / 2) hC.rolaw (by omega) (by omega)
                                                  first
                                                   | (exfalso; omega)
                                                   | (skip
                                                      refine e_istore (lsn := [(5, _), (0, _), (1, _), (2, _), (3, _), (4, _)]) 102 dX12_interest_100 (by decide) rfl rfl ?_
                                                      refine e_iload 104 dX12_interest_102 rfl rfl ?_
                                                      refine e_iconst 105 dX12_interest_104 rfl ?_
                                                      refine e_icmp_ne 108 113 dX12_interest_105 (by decide) (by decide) (by decide) rfl (fun h => absurd h (by decide)) (fun _ => ?_)
                                                      refine e_bipush 110 dX12_interest_108 (by decide) rfl ?_
                                                      refine e_goto 115 dX12_interest_110 (by decide) ?_
                                                      refine e_iret dX12_interest_115 ?_
                                                      first
                                                        | (exact ⟨by omega, hI⟩)
                                                        | (rw [hC.lrel.chg]
                                                           exact ⟨by omega, hI⟩)
                                                        | (rw [hC.lrelo.chg]
                                                           exact ⟨by omega, hI⟩)
                                                        | (exfalso
                                                           have q1 := hC.lrel.top
                                                           have q2 := hC.lrelo.top
                                                           have q3 := fTop_0 (M := M)
                                                           omega))))
                                    · first
                                       | (exfalso; omega)
                                       | (skip
                                          refine e_aload_n (i := 0) 65 dX12_interest_64 rfl rfl rfl ?_
                                          refine e_getr (j := 1) 68 fl_12_13 dX12_interest_65 at_928 rfl rfl tp_928_1 rfl ?_
                                          refine e_bipush 70 dX12_interest_68 (by decide) rfl ?_
                                          refine e_iald 71 dX12_interest_70 ar_929 (by decide) (by decide) rfl (fun r70 => ?_)
                                          refine e_if_ne 74 78 dX12_interest_71 (by omega) (by decide) rfl (fun b71 => ?_) (fun b71 => ?_)
                                          · first
                                             | (exfalso; omega)
                                             | (skip
                                                refine e_aload_n (i := 0) 79 dX12_interest_78 rfl rfl rfl ?_
                                                refine e_iload_n (i := 1) 80 dX12_interest_79 rfl rfl rfl ?_
                                                refine e_if_ne 83 87 dX12_interest_80 (by omega) (by decide) rfl (fun b80 => ?_) (fun b80 => ?_)
                                                · first
                                                   | (exfalso; omega)
                                                   | (skip
                                                      refine e_bipush 89 dX12_interest_87 (by decide) rfl ?_
                                                      refine e_iload_n (i := 2) 90 dX12_interest_89 rfl rfl rfl ?_
                                                      refine e_iload 92 dX12_interest_90 rfl rfl ?_
                                                      refine e_iload_n (i := 3) 93 dX12_interest_92 rfl rfl rfl ?_
                                                      refine e_isub 94 dX12_interest_93 rfl ?_
                                                      refine e_callS 97 mt_yX12_halvesOf ms_yX12_halvesOf wd_1484 (by decide) dX12_interest_94 rfl rfl (Nat.le_of_ble_eq_true rfl) (jroom (by decide)) rfl (m_halvesOf (by omega) ?_)
                                                      dsimp only [jpush]
                                                      refine e_callV 100 mt_yX12_interestBy mv_yX12_interestBy wd_1487 (by decide) dX12_interest_97 at_928 jc_12 rfl rfl rfl (Nat.le_of_ble_eq_true rfl) (jroom (by decide)) rfl (m_interestBy (by decide) (by omega) (by omega) hC.rolaw (fun w97 => ?_) (fun w97 => ?_))
                                                      · dsimp only [jpush]
                                                        have hr1 := rChg_rng (loan := loan) (hv := 1 + (to - fr) / 2) hC.rlaw (by omega) (by omega)
                                                        have hr2 := rChg_rng (loan := loan) (hv := 1 + (to - fr) / 2) hC.rolaw (by omega) (by omega)
                                                        first
                                                         | (exfalso; omega)
                                                         | (skip
                                                            refine e_istore (lsn := [(5, _), (0, _), (1, _), (2, _), (3, _), (4, _)]) 102 dX12_interest_100 (by decide) rfl rfl ?_
                                                            refine e_iload 104 dX12_interest_102 rfl rfl ?_
                                                            refine e_iconst 105 dX12_interest_104 rfl ?_
                                                            refine e_icmp_ne 108 113 dX12_interest_105 (by omega) (by decide) (by decide) rfl (fun b105 => ?_) (fun b105 => ?_)
                                                            · first
                                                               | (exfalso; omega)
                                                               | (skip
                                                                  refine e_iload 115 dX12_interest_113 rfl rfl ?_
                                                                  refine e_iret dX12_interest_115 ?_
                                                                  first
                                                                    | (exact ⟨by omega, hI⟩)
                                                                    | (rw [hC.lrel.chg]
                                                                       exact ⟨by omega, hI⟩)
                                                                    | (rw [hC.lrelo.chg]
                                                                       exact ⟨by omega, hI⟩)
                                                                    | (exfalso
                                                                       have q1 := hC.lrel.top
                                                                       have q2 := hC.lrelo.top
                                                                       have q3 := fTop_0 (M := M)
                                                                       omega))
                                                            · first
                                                               | (exfalso; omega)
                                                               | (skip
                                                                  refine e_bipush 110 dX12_interest_108 (by decide) rfl ?_
                                                                  refine e_goto 115 dX12_interest_110 (by decide) ?_
                                                                  refine e_iret dX12_interest_115 ?_
                                                                  first
                                                                    | (exact ⟨by omega, hI⟩)
                                                                    | (rw [hC.lrel.chg]
                                                                       exact ⟨by omega, hI⟩)
                                                                    | (rw [hC.lrelo.chg]
                                                                       exact ⟨by omega, hI⟩)
                                                                    | (exfalso
                                                                       have q1 := hC.lrel.top
                                                                       have q2 := hC.lrelo.top
                                                                       have q3 := fTop_0 (M := M)
                                                                       omega)))
                                                      · dsimp only [jpush]
                                                        have hr1 := rChg_rng (loan := loan) (hv := 1 + (to - fr) / 2) hC.rlaw (by omega) (by omega)
                                                        have hr2 := rChg_rng (loan := loan) (hv := 1 + (to - fr) / 2) hC.rolaw (by omega) (by omega)
                                                        first
                                                         | (exfalso; omega)
                                                         | (skip
                                                            refine e_istore (lsn := [(5, _), (0, _), (1, _), (2, _), (3, _), (4, _)]) 102 dX12_interest_100 (by decide) rfl rfl ?_
                                                            refine e_iload 104 dX12_interest_102 rfl rfl ?_
                                                            refine e_iconst 105 dX12_interest_104 rfl ?_
                                                            refine e_icmp_ne 108 113 dX12_interest_105 (by decide) (by decide) (by decide) rfl (fun h => absurd h (by decide)) (fun _ => ?_)
                                                            refine e_bipush 110 dX12_interest_108 (by decide) rfl ?_
                                                            refine e_goto 115 dX12_interest_110 (by decide) ?_
                                                            refine e_iret dX12_interest_115 ?_
                                                            first
                                                              | (exact ⟨by omega, hI⟩)
                                                              | (rw [hC.lrel.chg]
                                                                 exact ⟨by omega, hI⟩)
                                                              | (rw [hC.lrelo.chg]
                                                                 exact ⟨by omega, hI⟩)
                                                              | (exfalso
                                                                 have q1 := hC.lrel.top
                                                                 have q2 := hC.lrelo.top
                                                                 have q3 := fTop_0 (M := M)
                                                                 omega)))
                                                · first
                                                   | (exfalso; omega)
                                                   | (skip
                                                      refine e_iconst 84 dX12_interest_83 rfl ?_
                                                      refine e_goto 89 dX12_interest_84 (by decide) ?_
                                                      refine e_iload_n (i := 2) 90 dX12_interest_89 rfl rfl rfl ?_
                                                      refine e_iload 92 dX12_interest_90 rfl rfl ?_
                                                      refine e_iload_n (i := 3) 93 dX12_interest_92 rfl rfl rfl ?_
                                                      refine e_isub 94 dX12_interest_93 rfl ?_
                                                      refine e_callS 97 mt_yX12_halvesOf ms_yX12_halvesOf wd_1484 (by decide) dX12_interest_94 rfl rfl (Nat.le_of_ble_eq_true rfl) (jroom (by decide)) rfl (m_halvesOf (by omega) ?_)
                                                      dsimp only [jpush]
                                                      refine e_callV 100 mt_yX12_interestBy mv_yX12_interestBy wd_1487 (by decide) dX12_interest_97 at_928 jc_12 rfl rfl rfl (Nat.le_of_ble_eq_true rfl) (jroom (by decide)) rfl (m_interestBy (by decide) (by omega) (by omega) hC.rlaw (fun w97 => ?_) (fun w97 => ?_))
                                                      · dsimp only [jpush]
                                                        have hr1 := rChg_rng (loan := loan) (hv := 1 + (to - fr) / 2) hC.rlaw (by omega) (by omega)
                                                        have hr2 := rChg_rng (loan := loan) (hv := 1 + (to - fr) / 2) hC.rolaw (by omega) (by omega)
                                                        first
                                                         | (exfalso; omega)
                                                         | (skip
                                                            refine e_istore (lsn := [(5, _), (0, _), (1, _), (2, _), (3, _), (4, _)]) 102 dX12_interest_100 (by decide) rfl rfl ?_
                                                            refine e_iload 104 dX12_interest_102 rfl rfl ?_
                                                            refine e_iconst 105 dX12_interest_104 rfl ?_
                                                            refine e_icmp_ne 108 113 dX12_interest_105 (by omega) (by decide) (by decide) rfl (fun b105 => ?_) (fun b105 => ?_)
                                                            · first
                                                               | (exfalso; omega)
                                                               | (skip
                                                                  refine e_iload 115 dX12_interest_113 rfl rfl ?_
                                                                  refine e_iret dX12_interest_115 ?_
                                                                  first
                                                                    | (exact ⟨by omega, hI⟩)
                                                                    | (rw [hC.lrel.chg]
                                                                       exact ⟨by omega, hI⟩)
                                                                    | (rw [hC.lrelo.chg]
                                                                       exact ⟨by omega, hI⟩)
                                                                    | (exfalso
                                                                       have q1 := hC.lrel.top
                                                                       have q2 := hC.lrelo.top
                                                                       have q3 := fTop_0 (M := M)
                                                                       omega))
                                                            · first
                                                               | (exfalso; omega)
                                                               | (skip
                                                                  refine e_bipush 110 dX12_interest_108 (by decide) rfl ?_
                                                                  refine e_goto 115 dX12_interest_110 (by decide) ?_
                                                                  refine e_iret dX12_interest_115 ?_
                                                                  first
                                                                    | (exact ⟨by omega, hI⟩)
                                                                    | (rw [hC.lrel.chg]
                                                                       exact ⟨by omega, hI⟩)
                                                                    | (rw [hC.lrelo.chg]
                                                                       exact ⟨by omega, hI⟩)
                                                                    | (exfalso
                                                                       have q1 := hC.lrel.top
                                                                       have q2 := hC.lrelo.top
                                                                       have q3 := fTop_0 (M := M)
                                                                       omega)))
                                                      · dsimp only [jpush]
                                                        have hr1 := rChg_rng (loan := loan) (hv := 1 + (to - fr) / 2) hC.rlaw (by omega) (by omega)
                                                        have hr2 := rChg_rng (loan := loan) (hv := 1 + (to - fr) / 2) hC.rolaw (by omega) (by omega)
                                                        first
                                                         | (exfalso; omega)
                                                         | (skip
                                                            refine e_istore (lsn := [(5, _), (0, _), (1, _), (2, _), (3, _), (4, _)]) 102 dX12_interest_100 (by decide) rfl rfl ?_
                                                            refine e_iload 104 dX12_interest_102 rfl rfl ?_
                                                            refine e_iconst 105 dX12_interest_104 rfl ?_
                                                            refine e_icmp_ne 108 113 dX12_interest_105 (by decide) (by decide) (by decide) rfl (fun h => absurd h (by decide)) (fun _ => ?_)
                                                            refine e_bipush 110 dX12_interest_108 (by decide) rfl ?_
                                                            refine e_goto 115 dX12_interest_110 (by decide) ?_
                                                            refine e_iret dX12_interest_115 ?_
                                                            first
                                                              | (exact ⟨by omega, hI⟩)
                                                              | (rw [hC.lrel.chg]
                                                                 exact ⟨by omega, hI⟩)
                                                              | (rw [hC.lrelo.chg]
                                                                 exact ⟨by omega, hI⟩)
                                                              | (exfalso
                                                                 have q1 := hC.lrel.top
                                                                 have q2 := hC.lrelo.top
                                                                 have q3 := fTop_0 (M := M)
                                                                 omega))))
                                          · first
                                             | (exfalso; omega)
                                             | (skip
                                                refine e_iconst 75 dX12_interest_74 rfl ?_
                                                refine e_goto 100 dX12_interest_75 (by decide) ?_
                                                refine e_istore (lsn := [(5, _), (0, _), (1, _), (2, _), (3, _), (4, _)]) 102 dX12_interest_100 (by decide) rfl rfl ?_
                                                refine e_iload 104 dX12_interest_102 rfl rfl ?_
                                                refine e_iconst 105 dX12_interest_104 rfl ?_
                                                refine e_icmp_ne 108 113 dX12_interest_105 (by decide) (by decide) (by decide) rfl (fun h => absurd h (by decide)) (fun _ => ?_)
                                                refine e_bipush 110 dX12_interest_108 (by decide) rfl ?_
                                                refine e_goto 115 dX12_interest_110 (by decide) ?_
                                                refine e_iret dX12_interest_115 ?_
                                                first
                                                  | (exact ⟨by omega, hI⟩)
                                                  | (rw [hC.lrel.chg]
                                                     exact ⟨by omega, hI⟩)
                                                  | (rw [hC.lrelo.chg]
                                                     exact ⟨by omega, hI⟩)
                                                  | (exfalso
                                                     have q1 := hC.lrel.top
                                                     have q2 := hC.lrelo.top
                                                     have q3 := fTop_0 (M := M)
                                                     omega))))
                              · dsimp only [jpush]
                                first
                                 | (exfalso; omega)
                                 | (skip
                                    refine e_if_ne 56 59 dX12_interest_53 (by decide) (by decide) rfl (fun h => absurd h (by decide)) (fun _ => ?_)
                                    refine e_bipush 58 dX12_interest_56 (by decide) rfl ?_
                                    refine e_iret dX12_interest_58 ?_
                                    first
                                      | (exact ⟨by omega, hI⟩)
                                      | (rw [hC.lrel.chg]
                                         exact ⟨by omega, hI⟩)
                                      | (rw [hC.lrelo.chg]
                                         exact ⟨by omega, hI⟩)
                                      | (exfalso
                                         have q1 := hC.lrel.top
                                         have q2 := hC.lrelo.top
                                         have q3 := fTop_0 (M := M)
                                         omega)))
                        · dsimp only [jpush]
                          first
                           | (exfalso; omega)
                           | (skip
                              refine e_if_eq 42 56 dX12_interest_39 (by decide) (by decide) rfl (fun _ => ?_) (fun h => absurd h (by decide))
                              refine e_bipush 58 dX12_interest_56 (by decide) rfl ?_
                              refine e_iret dX12_interest_58 ?_
                              first
                                | (exact ⟨by omega, hI⟩)
                                | (rw [hC.lrel.chg]
                                   exact ⟨by omega, hI⟩)
                                | (rw [hC.lrelo.chg]
                                   exact ⟨by omega, hI⟩)
                                | (exfalso
                                   have q1 := hC.lrel.top
                                   have q2 := hC.lrelo.top
                                   have q3 := fTop_0 (M := M)
                                   omega)))
                  · dsimp only [jpush]
                    first
                     | (exfalso; omega)
                     | (skip
                        refine e_if_eq 30 56 dX12_interest_27 (by decide) (by decide) rfl (fun _ => ?_) (fun h => absurd h (by decide))
                        refine e_bipush 58 dX12_interest_56 (by decide) rfl ?_
                        refine e_iret dX12_interest_58 ?_
                        first
                          | (exact ⟨by omega, hI⟩)
                          | (rw [hC.lrel.chg]
                             exact ⟨by omega, hI⟩)
                          | (rw [hC.lrelo.chg]
                             exact ⟨by omega, hI⟩)
                          | (exfalso
                             have q1 := hC.lrel.top
                             have q2 := hC.lrelo.top
                             have q3 := fTop_0 (M := M)
                             omega)))
            · dsimp only [jpush]
              first
               | (exfalso; omega)
               | (skip
                  refine e_if_ne 15 18 dX12_interest_12 (by decide) (by decide) rfl (fun h => absurd h (by decide)) (fun _ => ?_)
                  refine e_bipush 17 dX12_interest_15 (by decide) rfl ?_
                  refine e_iret dX12_interest_17 ?_
                  first
                    | (exact ⟨by omega, hI⟩)
                    | (rw [hC.lrel.chg]
                       exact ⟨by omega, hI⟩)
                    | (rw [hC.lrelo.chg]
                       exact ⟨by omega, hI⟩)
                    | (exfalso
                       have q1 := hC.lrel.top
                       have q2 := hC.lrelo.top
                       have q3 := fTop_0 (M := M)
                       omega))
        · dsimp only [jpush]
          refine e_if_eq 30 42 dX11_interest_27 (by decide) (by decide) rfl (fun _ => ?_) (fun h => absurd h (by decide))
          refine e_bipush 44 dX11_interest_42 (by decide) rfl ?_
          refine e_iret dX11_interest_44 ?_
          refine jCt_of mt_yX12_interest (Nat.le_of_ble_eq_true rfl) (fun X2 => ?_)
          refine e_aload_n (i := 0) 1 dX12_interest_0 rfl rfl rfl ?_
          refine e_iconst 2 dX12_interest_1 rfl ?_
          refine e_put0 (j := 0) 5 fl_12_1 dX12_interest_2 at_928 rfl rfl rfl (by decide) hI.1 rfl ?_
          refine e_iload_n (i := 1) 6 dX12_interest_5 rfl rfl rfl ?_
          refine e_i2l 7 dX12_interest_6 (by omega) rfl ?_
          refine e_lconst0 8 dX12_interest_7 rfl ?_
          refine e_lconst1 9 dX12_interest_8 rfl ?_
          refine e_callS 12 mt_yX12_within ms_yX12_within wd_1390 (by decide) dX12_interest_9 rfl rfl (Nat.le_of_ble_eq_true rfl) (jroom (by decide)) rfl (m_within (by omega) (by omega) (by omega) (fun w9 => ?_) (fun w9 => ?_))
          · dsimp only [jpush]
            first
             | (exfalso; omega)
             | (skip
                refine e_if_ne 15 18 dX12_interest_12 (by decide) (by decide) rfl (fun _ => ?_) (fun h => absurd h (by decide))
                refine e_iload_n (i := 2) 19 dX12_interest_18 rfl rfl rfl ?_
                refine e_i2l 20 dX12_interest_19 (by omega) rfl ?_
                refine e_lconst1 21 dX12_interest_20 rfl ?_
                refine e_ldc2 (z := (999)) 24 (ix := 198) wd_1482 (by decide) dX12_interest_21 rfl ?_
                refine e_callS 27 mt_yX12_within ms_yX12_within wd_1390 (by decide) dX12_interest_24 rfl rfl (Nat.le_of_ble_eq_true rfl) (jroom (by decide)) rfl (m_within (by omega) (by omega) (by omega) (fun w24 => ?_) (fun w24 => ?_))
                · dsimp only [jpush]
                  first
                   | (exfalso; omega)
                   | (skip
                      refine e_if_eq 30 56 dX12_interest_27 (by decide) (by decide) rfl (fun h => absurd h (by decide)) (fun _ => ?_)
                      refine e_iload_n (i := 3) 31 dX12_interest_30 rfl rfl rfl ?_
                      refine e_i2l 32 dX12_interest_31 (by omega) rfl ?_
                      refine e_lconst0 33 dX12_interest_32 rfl ?_
                      refine e_ldc2 (z := (300)) 36 (ix := 200) wd_1483 (by decide) dX12_interest_33 rfl ?_
                      refine e_callS 39 mt_yX12_within ms_yX12_within wd_1390 (by decide) dX12_interest_36 rfl rfl (Nat.le_of_ble_eq_true rfl) (jroom (by decide)) rfl (m_within (by omega) (by omega) (by omega) (fun w36 => ?_) (fun w36 => ?_))
                      · dsimp only [jpush]
                        first
                         | (exfalso; omega)
                         | (skip
                            refine e_if_eq 42 56 dX12_interest_39 (by decide) (by decide) rfl (fun h => absurd h (by decide)) (fun _ => ?_)
                            refine e_iload 44 dX12_interest_42 rfl rfl ?_
                            refine e_i2l 45 dX12_interest_44 (by omega) rfl ?_
                            refine e_iload_n (i := 3) 46 dX12_interest_45 rfl rfl rfl ?_
                            refine e_i2l 47 dX12_interest_46 (by omega) rfl ?_
                            refine e_ldc2 (z := (300)) 50 (ix := 200) wd_1483 (by decide) dX12_interest_47 rfl ?_
                            refine e_callS 53 mt_yX12_within ms_yX12_within wd_1390 (by decide) dX12_interest_50 rfl rfl (Nat.le_of_ble_eq_true rfl) (jroom (by decide)) rfl (m_within (by omega) (by omega) (by omega) (fun w50 => ?_) (fun w50 => ?_))
                            · dsimp only [jpush]
                              first
                               | (exfalso; omega)
                               | (skip
                                  refine e_if_ne 56 59 dX12_interest_53 (by decide) (by decide) rfl (fun _ => ?_) (fun h => absurd h (by decide))
                                  refine e_iload_n (i := 1) 60 dX12_interest_59 rfl rfl rfl ?_
                                  refine e_iconst 61 dX12_interest_60 rfl ?_
                                  refine e_icmp_ne 64 78 dX12_interest_61 (by omega) (by decide) (by decide) rfl (fun b61 => ?_) (fun b61 => ?_)
                                  · first
                                     | (exfalso; omega)
                                     | (skip
                                        refine e_aload_n (i := 0) 79 dX12_interest_78 rfl rfl rfl ?_
                                        refine e_iload_n (i := 1) 80 dX12_interest_79 rfl rfl rfl ?_
                                        refine e_if_ne 83 87 dX12_interest_80 (by omega) (by decide) rfl (fun b80 => ?_) (fun b80 => ?_)
                                        · first
                                           | (exfalso; omega)
                                           | (skip
                                              refine e_bipush 89 dX12_interest_87 (by decide) rfl ?_
                                              refine e_iload_n (i := 2) 90 dX12_interest_89 rfl rfl rfl ?_
                                              refine e_iload 92 dX12_interest_90 rfl rfl ?_
                                              refine e_iload_n (i := 3) 93 dX12_interest_92 rfl rfl rfl ?_
                                              refine e_isub 94 dX12_interest_93 rfl ?_
                                              refine e_callS 97 mt_yX12_halvesOf ms_yX12_halvesOf wd_1484 (by decide) dX12_interest_94 rfl rfl (Nat.le_of_ble_eq_true rfl) (jroom (by decide)) rfl (m_halvesOf (by omega) ?_)
                                              dsimp only [jpush]
                                              refine e_callV 100 mt_yX12_interestBy mv_yX12_interestBy wd_1487 (by decide) dX12_interest_97 at_928 jc_12 rfl rfl rfl (Nat.le_of_ble_eq_true rfl) (jroom (by decide)) rfl (m_interestBy (by decide) (by omega) (by omega) hC.rolaw (fun w97 => ?_) (fun w97 => ?_))
                                              · dsimp only [jpush]
                                                have hr1 := rChg_rng (loan := loan) (hv := 1 + (to - fr) / 2) hC.rlaw (by omega) (by omega)
                                                have hr2 := rChg_rng (loan := loan) (hv := 1 + (to - fr) / 2) hC.rolaw (by omega) (by omega)
                                                first
                                                 | (exfalso; omega)
                                                 | (skip
                                                    refine e_istore (lsn := [(5, _), (0, _), (1, _), (2, _), (3, _), (4, _)]) 102 dX12_interest_100 (by decide) rfl rfl ?_
                                                    refine e_iload 104 dX12_interest_102 rfl rfl ?_
                                                    refine e_iconst 105 dX12_interest_104 rfl ?_
                                                    refine e_icmp_ne 108 113 dX12_interest_105 (by omega) (by decide) (by decide) rfl (fun b105 => ?_) (fun b105 => ?_)
                                                    · first
                                                       | (exfalso; omega)
                                                       | (skip
                                                          refine e_iload 115 dX12_interest_113 rfl rfl ?_
                                                          refine e_iret dX12_interest_115 ?_
                                                          first
                                                            | (exact ⟨by omega, hI⟩)
                                                            | (rw [hC.lrel.chg]
                                                               exact ⟨by omega, hI⟩)
                                                            | (rw [hC.lrelo.chg]
                                                               exact ⟨by omega, hI⟩)
                                                            | (exfalso
                                                               have q1 := hC.lrel.top
                                                               have q2 := hC.lrelo.top
                                                               have q3 := fTop_0 (M := M)
                                                               omega))
                                                    · first
                                                       | (exfalso; omega)
                                                       | (skip
                                                          refine e_bipush 110 dX12_interest_108 (by decide) rfl ?_
                                                          refine e_goto 115 dX12_interest_110 (by decide) ?_
                                                          refine e_iret dX12_interest_115 ?_
                                                          first
                                                            | (exact ⟨by omega, hI⟩)
                                                            | (rw [hC.lrel.chg]
                                                               exact ⟨by omega, hI⟩)
                                                            | (rw [hC.lrelo.chg]
                                                               exact ⟨by omega, hI⟩)
                                                            | (exfalso
                                                               have q1 := hC.lrel.top
                                                               have q2 := hC.lrelo.top
                                                               have q3 := fTop_0 (M := M)
                                                               omega)))
                                              · dsimp only [jpush]
                                                have hr1 := rChg_rng (loan := loan) (hv := 1 + (to - fr) / 2) hC.rlaw (by omega) (by omega)
                                                have hr2 := rChg_rng (loan := loan) (hv := 1 + (to - fr) / 2) hC.rolaw (by omega) (by omega)
                                                first
                                                 | (exfalso; omega)
                                                 | (skip
                                                    refine e_istore (lsn := [(5, _), (0, _), (1, _), (2, _), (3, _), (4, _)]) 102 dX12_interest_100 (by decide) rfl rfl ?_
                                                    refine e_iload 104 dX12_interest_102 rfl rfl ?_
                                                    refine e_iconst 105 dX12_interest_104 rfl ?_
                                                    refine e_icmp_ne 108 113 dX12_interest_105 (by decide) (by decide) (by decide) rfl (fun h => absurd h (by decide)) (fun _ => ?_)
                                                    refine e_bipush 110 dX12_interest_108 (by decide) rfl ?_
                                                    refine e_goto 115 dX12_interest_110 (by decide) ?_
                                                    refine e_iret dX12_interest_115 ?_
                                                    first
                                                      | (exact ⟨by omega, hI⟩)
                                                      | (rw [hC.lrel.chg]
                                                         exact ⟨by omega, hI⟩)
                                                      | (rw [hC.lrelo.chg]
                                                         exact ⟨by omega, hI⟩)
                                                      | (exfalso
                                                         have q1 := hC.lrel.top
                                                         have q2 := hC.lrelo.top
                                                         have q3 := fTop_0 (M := M)
                                                         omega)))
                                        · first
                                           | (exfalso; omega)
                                           | (skip
                                              refine e_iconst 84 dX12_interest_83 rfl ?_
                                              refine e_goto 89 dX12_interest_84 (by decide) ?_
                                              refine e_iload_n (i := 2) 90 dX12_interest_89 rfl rfl rfl ?_
                                              refine e_iload 92 dX12_interest_90 rfl rfl ?_
                                              refine e_iload_n (i := 3) 93 dX12_interest_92 rfl rfl rfl ?_
                                              refine e_isub 94 dX12_interest_93 rfl ?_
                                              refine e_callS 97 mt_yX12_halvesOf ms_yX12_halvesOf wd_1484 (by decide) dX12_interest_94 rfl rfl (Nat.le_of_ble_eq_true rfl) (jroom (by decide)) rfl (m_halvesOf (by omega) ?_)
                                              dsimp only [jpush]
                                              refine e_callV 100 mt_yX12_interestBy mv_yX12_interestBy wd_1487 (by decide) dX12_interest_97 at_928 jc_12 rfl rfl rfl (Nat.le_of_ble_eq_true rfl) (jroom (by decide)) rfl (m_interestBy (by decide) (by omega) (by omega) hC.rlaw (fun w97 => ?_) (fun w97 => ?_))
                                              · dsimp only [jpush]
                                                have hr1 := rChg_rng (loan := loan) (hv := 1 + (to - fr) / 2) hC.rlaw (by omega) (by omega)
                                                have hr2 := rChg_rng (loan := loan) (hv := 1 + (to - fr) / 2) hC.rolaw (by omega) (by omega)
                                                first
                                                 | (exfalso; omega)
                                                 | (skip
                                                    refine e_istore (lsn := [(5, _), (0, _), (1, _), (2, _), (3, _), (4, _)]) 102 dX12_interest_100 (by decide) rfl rfl ?_
                                                    refine e_iload 104 dX12_interest_102 rfl rfl ?_
                                                    refine e_iconst 105 dX12_interest_104 rfl ?_
                                                    refine e_icmp_ne 108 113 dX12_interest_105 (by omega) (by decide) (by decide) rfl (fun b105 => ?_) (fun b105 => ?_)
                                                    · first
                                                       | (exfalso; omega)
                                                       | (skip
                                                          refine e_iload 115 dX12_interest_113 rfl rfl ?_
                                                          refine e_iret dX12_interest_115 ?_
                                                          first
                                                            | (exact ⟨by omega, hI⟩)
                                                            | (rw [hC.lrel.chg]
                                                               exact ⟨by omega, hI⟩)
                                                            | (rw [hC.lrelo.chg]
                                                               exact ⟨by omega, hI⟩)
                                                            | (exfalso
                                                               have q1 := hC.lrel.top
                                                               have q2 := hC.lrelo.top
                                                               have q3 := fTop_0 (M := M)
                                                               omega))
                                                    · first
                                                       | (exfalso; omega)
                                                       | (skip
                                                          refine e_bipush 110 dX12_interest_108 (by decide) rfl ?_
                                                          refine e_goto 115 dX12_interest_110 (by decide) ?_
                                                          refine e_iret dX12_interest_115 ?_
                                                          first
                                                            | (exact ⟨by omega, hI⟩)
                                                            | (rw [hC.lrel.chg]
                                                               exact ⟨by omega, hI⟩)
                                                            | (rw [hC.lrelo.chg]
                                                               exact ⟨by omega, hI⟩)
                                                            | (exfalso
                                                               have q1 := hC.lrel.top
                                                               have q2 := hC.lrelo.top
                                                               have q3 := fTop_0 (M := M)
                                                               omega)))
                                              · dsimp only [jpush]
                                                have hr1 := rChg_rng (loan := loan) (hv := 1 + (to - fr) / 2) hC.rlaw (by omega) (by omega)
                                                have hr2 := rChg_rng (loan := loan) (hv := 1 + (to - fr) / 2) hC.rolaw (by omega) (by omega)
                                                first
                                                 | (exfalso; omega)
                                                 | (skip
                                                    refine e_istore (lsn := [(5, _), (0, _), (1, _), (2, _), (3, _), (4, _)]) 102 dX12_interest_100 (by decide) rfl rfl ?_
                                                    refine e_iload 104 dX12_interest_102 rfl rfl ?_
                                                    refine e_iconst 105 dX12_interest_104 rfl ?_
                                                    refine e_icmp_ne 108 113 dX12_interest_105 (by decide) (by decide) (by decide) rfl (fun h => absurd h (by decide)) (fun _ => ?_)
                                                    refine e_bipush 110 dX12_interest_108 (by decide) rfl ?_
                                                    refine e_goto 115 dX12_interest_110 (by decide) ?_
                                                    refine e_iret dX12_interest_115 ?_
                                                    first
                                                      | (exact ⟨by omega, hI⟩)
                                                      | (rw [hC.lrel.chg]
                                                         exact ⟨by omega, hI⟩)
                                                      | (rw [hC.lrelo.chg]
                                                         exact ⟨by omega, hI⟩)
                                                      | (exfalso
                                                         have q1 := hC.lrel.top
                                                         have q2 := hC.lrelo.top
                                                         have q3 := fTop_0 (M := M)
                                                         omega))))
                                  · first
                                     | (exfalso; omega)
                                     | (skip
                                        refine e_aload_n (i := 0) 65 dX12_interest_64 rfl rfl rfl ?_
                                        refine e_getr (j := 1) 68 fl_12_13 dX12_interest_65 at_928 rfl rfl tp_928_1 rfl ?_
                                        refine e_bipush 70 dX12_interest_68 (by decide) rfl ?_
                                        refine e_iald 71 dX12_interest_70 ar_929 (by decide) (by decide) rfl (fun r70 => ?_)
                                        refine e_if_ne 74 78 dX12_interest_71 (by omega) (by decide) rfl (fun b71 => ?_) (fun b71 => ?_)
                                        · first
                                           | (exfalso; omega)
                                           | (skip
                                              refine e_aload_n (i := 0) 79 dX12_interest_78 rfl rfl rfl ?_
                                              refine e_iload_n (i := 1) 80 dX12_interest_79 rfl rfl rfl ?_
                                              refine e_if_ne 83 87 dX12_interest_80 (by omega) (by decide) rfl (fun b80 => ?_) (fun b80 => ?_)
                                              · first
                                                 | (exfalso; omega)
                                                 | (skip
                                                    refine e_bipush 89 dX12_interest_87 (by decide) rfl ?_
                                                    refine e_iload_n (i := 2) 90 dX12_interest_89 rfl rfl rfl ?_
                                                    refine e_iload 92 dX12_interest_90 rfl rfl ?_
                                                    refine e_iload_n (i := 3) 93 dX12_interest_92 rfl rfl rfl ?_
                                                    refine e_isub 94 dX12_interest_93 rfl ?_
                                                    refine e_callS 97 mt_yX12_halvesOf ms_yX12_halvesOf wd_1484 (by decide) dX12_interest_94 rfl rfl (Nat.le_of_ble_eq_true rfl) (jroom (by decide)) rfl (m_halvesOf (by omega) ?_)
                                                    dsimp only [jpush]
                                                    refine e_callV 100 mt_yX12_interestBy mv_yX12_interestBy wd_1487 (by decide) dX12_interest_97 at_928 jc_12 rfl rfl rfl (Nat.le_of_ble_eq_true rfl) (jroom (by decide)) rfl (m_interestBy (by decide) (by omega) (by omega) hC.rolaw (fun w97 => ?_) (fun w97 => ?_))
                                                    · dsimp only [jpush]
                                                      have hr1 := rChg_rng (loan := loan) (hv := 1 + (to - fr) / 2) hC.rlaw (by omega) (by omega)
                                                      have hr2 := rChg_rng (loan := loan) (hv := 1 + (to - fr) / 2) hC.rolaw (by omega) (by omega)
                                                      first
                                                       | (exfalso; omega)
                                                       | (skip
                                                          refine e_istore (lsn := [(5, _), (0, _), (1, _), (2, _), (3, _), (4, _)]) 102 dX12_interest_100 (by decide) rfl rfl ?_
                                                          refine e_iload 104 dX12_interest_102 rfl rfl ?_
                                                          refine e_iconst 105 dX12_interest_104 rfl ?_
                                                          refine e_icmp_ne 108 113 dX12_interest_105 (by omega) (by decide) (by decide) rfl (fun b105 => ?_) (fun b105 => ?_)
                                                          · first
                                                             | (exfalso; omega)
                                                             | (skip
                                                                refine e_iload 115 dX12_interest_113 rfl rfl ?_
                                                                refine e_iret dX12_interest_115 ?_
                                                                first
                                                                  | (exact ⟨by omega, hI⟩)
                                                                  | (rw [hC.lrel.chg]
                                                                     exact ⟨by omega, hI⟩)
                                                                  | (rw [hC.lrelo.chg]
                                                                     exact ⟨by omega, hI⟩)
                                                                  | (exfalso
                                                                     have q1 := hC.lrel.top
                                                                     have q2 := hC.lrelo.top
                                                                     have q3 := fTop_0 (M := M)
                                                                     omega))
                                                          · first
                                                             | (exfalso; omega)
                                                             | (skip
                                                                refine e_bipush 110 dX12_interest_108 (by decide) rfl ?_
                                                                refine e_goto 115 dX12_interest_110 (by decide) ?_
                                                                refine e_iret dX12_interest_115 ?_
                                                                first
                                                                  | (exact ⟨by omega, hI⟩)
                                                                  | (rw [hC.lrel.chg]
                                                                     exact ⟨by omega, hI⟩)
                                                                  | (rw [hC.lrelo.chg]
                                                                     exact ⟨by omega, hI⟩)
                                                                  | (exfalso
                                                                     have q1 := hC.lrel.top
                                                                     have q2 := hC.lrelo.top
                                                                     have q3 := fTop_0 (M := M)
                                                                     omega)))
                                                    · dsimp only [jpush]
                                                      have hr1 := rChg_rng (loan := loan) (hv := 1 + (to - fr) / 2) hC.rlaw (by omega) (by omega)
                                                      have hr2 := rChg_rng (loan := loan) (hv := 1 + (to - fr) / 2) hC.rolaw (by omega) (by omega)
                                                      first
                                                       | (exfalso; omega)
                                                       | (skip
                                                          refine e_istore (lsn := [(5, _), (0, _), (1, _), (2, _), (3, _), (4, _)]) 102 dX12_interest_100 (by decide) rfl rfl ?_
                                                          refine e_iload 104 dX12_interest_102 rfl rfl ?_
                                                          refine e_iconst 105 dX12_interest_104 rfl ?_
                                                          refine e_icmp_ne 108 113 dX12_interest_105 (by decide) (by decide) (by decide) rfl (fun h => absurd h (by decide)) (fun _ => ?_)
                                                          refine e_bipush 110 dX12_interest_108 (by decide) rfl ?_
                                                          refine e_goto 115 dX12_interest_110 (by decide) ?_
                                                          refine e_iret dX12_interest_115 ?_
                                                          first
                                                            | (exact ⟨by omega, hI⟩)
                                                            | (rw [hC.lrel.chg]
                                                               exact ⟨by omega, hI⟩)
                                                            | (rw [hC.lrelo.chg]
                                                               exact ⟨by omega, hI⟩)
                                                            | (exfalso
                                                               have q1 := hC.lrel.top
                                                               have q2 := hC.lrelo.top
                                                               have q3 := fTop_0 (M := M)
                                                               omega)))
                                              · first
                                                 | (exfalso; omega)
                                                 | (skip
                                                    refine e_iconst 84 dX12_interest_83 rfl ?_
                                                    refine e_goto 89 dX12_interest_84 (by decide) ?_
                                                    refine e_iload_n (i := 2) 90 dX12_interest_89 rfl rfl rfl ?_
                                                    refine e_iload 92 dX12_interest_90 rfl rfl ?_
                                                    refine e_iload_n (i := 3) 93 dX12_interest_92 rfl rfl rfl ?_
                                                    refine e_isub 94 dX12_interest_93 rfl ?_
                                                    refine e_callS 97 mt_yX12_halvesOf ms_yX12_halvesOf wd_1484 (by decide) dX12_interest_94 rfl rfl (Nat.le_of_ble_eq_true rfl) (jroom (by decide)) rfl (m_halvesOf (by omega) ?_)
                                                    dsimp only [jpush]
                                                    refine e_callV 100 mt_yX12_interestBy mv_yX12_interestBy wd_1487 (by decide) dX12_interest_97 at_928 jc_12 rfl rfl rfl (Nat.le_of_ble_eq_true rfl) (jroom (by decide)) rfl (m_interestBy (by decide) (by omega) (by omega) hC.rlaw (fun w97 => ?_) (fun w97 => ?_))
                                                    · dsimp only [jpush]
                                                      have hr1 := rChg_rng (loan := loan) (hv := 1 + (to - fr) / 2) hC.rlaw (by omega) (by omega)
                                                      have hr2 := rChg_rng (loan := loan) (hv := 1 + (to - fr) / 2) hC.rolaw (by omega) (by omega)
                                                      first
                                                       | (exfalso; omega)
                                                       | (skip
                                                          refine e_istore (lsn := [(5, _), (0, _), (1, _), (2, _), (3, _), (4, _)]) 102 dX12_interest_100 (by decide) rfl rfl ?_
                                                          refine e_iload 104 dX12_interest_102 rfl rfl ?_
                                                          refine e_iconst 105 dX12_interest_104 rfl ?_
                                                          refine e_icmp_ne 108 113 dX12_interest_105 (by omega) (by decide) (by decide) rfl (fun b105 => ?_) (fun b105 => ?_)
                                                          · first
                                                             | (exfalso; omega)
                                                             | (skip
                                                                refine e_iload 115 dX12_interest_113 rfl rfl ?_
                                                                refine e_iret dX12_interest_115 ?_
                                                                first
                                                                  | (exact ⟨by omega, hI⟩)
                                                                  | (rw [hC.lrel.chg]
                                                                     exact ⟨by omega, hI⟩)
                                                                  | (rw [hC.lrelo.chg]
                                                                     exact ⟨by omega, hI⟩)
                                                                  | (exfalso
                                                                     have q1 := hC.lrel.top
                                                                     have q2 := hC.lrelo.top
                                                                     have q3 := fTop_0 (M := M)
                                                                     omega))
                                                          · first
                                                             | (exfalso; omega)
                                                             | (skip
                                                                refine e_bipush 110 dX12_interest_108 (by decide) rfl ?_
                                                                refine e_goto 115 dX12_interest_110 (by decide) ?_
                                                                refine e_iret dX12_interest_115 ?_
                                                                first
                                                                  | (exact ⟨by omega, hI⟩)
                                                                  | (rw [hC.lrel.chg]
                                                                     exact ⟨by omega, hI⟩)
                                                                  | (rw [hC.lrelo.chg]
                                                                     exact ⟨by omega, hI⟩)
                                                                  | (exfalso
                                                                     have q1 := hC.lrel.top
                                                                     have q2 := hC.lrelo.top
                                                                     have q3 := fTop_0 (M := M)
                                                                     omega)))
                                                    · dsimp only [jpush]
                                                      have hr1 := rChg_rng (loan := loan) (hv := 1 + (to - fr) / 2) hC.rlaw (by omega) (by omega)
                                                      have hr2 := rChg_rng (loan := loan) (hv := 1 + (to - fr) / 2) hC.rolaw (by omega) (by omega)
                                                      first
                                                       | (exfalso; omega)
                                                       | (skip
                                                          refine e_istore (lsn := [(5, _), (0, _), (1, _), (2, _), (3, _), (4, _)]) 102 dX12_interest_100 (by decide) rfl rfl ?_
                                                          refine e_iload 104 dX12_interest_102 rfl rfl ?_
                                                          refine e_iconst 105 dX12_interest_104 rfl ?_
                                                          refine e_icmp_ne 108 113 dX12_interest_105 (by decide) (by decide) (by decide) rfl (fun h => absurd h (by decide)) (fun _ => ?_)
                                                          refine e_bipush 110 dX12_interest_108 (by decide) rfl ?_
                                                          refine e_goto 115 dX12_interest_110 (by decide) ?_
                                                          refine e_iret dX12_interest_115 ?_
                                                          first
                                                            | (exact ⟨by omega, hI⟩)
                                                            | (rw [hC.lrel.chg]
                                                               exact ⟨by omega, hI⟩)
                                                            | (rw [hC.lrelo.chg]
                                                               exact ⟨by omega, hI⟩)
                                                            | (exfalso
                                                               have q1 := hC.lrel.top
                                                               have q2 := hC.lrelo.top
                                                               have q3 := fTop_0 (M := M)
                                                               omega))))
                                        · first
                                           | (exfalso; omega)
                                           | (skip
                                              refine e_iconst 75 dX12_interest_74 rfl ?_
                                              refine e_goto 100 dX12_interest_75 (by decide) ?_
                                              refine e_istore (lsn := [(5, _), (0, _), (1, _), (2, _), (3, _), (4, _)]) 102 dX12_interest_100 (by decide) rfl rfl ?_
                                              refine e_iload 104 dX12_interest_102 rfl rfl ?_
                                              refine e_iconst 105 dX12_interest_104 rfl ?_
                                              refine e_icmp_ne 108 113 dX12_interest_105 (by decide) (by decide) (by decide) rfl (fun h => absurd h (by decide)) (fun _ => ?_)
                                              refine e_bipush 110 dX12_interest_108 (by decide) rfl ?_
                                              refine e_goto 115 dX12_interest_110 (by decide) ?_
                                              refine e_iret dX12_interest_115 ?_
                                              first
                                                | (exact ⟨by omega, hI⟩)
                                                | (rw [hC.lrel.chg]
                                                   exact ⟨by omega, hI⟩)
                                                | (rw [hC.lrelo.chg]
                                                   exact ⟨by omega, hI⟩)
                                                | (exfalso
                                                   have q1 := hC.lrel.top
                                                   have q2 := hC.lrelo.top
                                                   have q3 := fTop_0 (M := M)
                                                   omega))))
                            · dsimp only [jpush]
                              first
                               | (exfalso; omega)
                               | (skip
                                  refine e_if_ne 56 59 dX12_interest_53 (by decide) (by decide) rfl (fun h => absurd h (by decide)) (fun _ => ?_)
                                  refine e_bipush 58 dX12_interest_56 (by decide) rfl ?_
                                  refine e_iret dX12_interest_58 ?_
                                  first
                                    | (exact ⟨by omega, hI⟩)
                                    | (rw [hC.lrel.chg]
                                       exact ⟨by omega, hI⟩)
                                    | (rw [hC.lrelo.chg]
                                       exact ⟨by omega, hI⟩)
                                    | (exfalso
                                       have q1 := hC.lrel.top
                                       have q2 := hC.lrelo.top
                                       have q3 := fTop_0 (M := M)
                                       omega)))
                      · dsimp only [jpush]
                        first
                         | (exfalso; omega)
                         | (skip
                            refine e_if_eq 42 56 dX12_interest_39 (by decide) (by decide) rfl (fun _ => ?_) (fun h => absurd h (by decide))
                            refine e_bipush 58 dX12_interest_56 (by decide) rfl ?_
                            refine e_iret dX12_interest_58 ?_
                            first
                              | (exact ⟨by omega, hI⟩)
                              | (rw [hC.lrel.chg]
                                 exact ⟨by omega, hI⟩)
                              | (rw [hC.lrelo.chg]
                                 exact ⟨by omega, hI⟩)
                              | (exfalso
                                 have q1 := hC.lrel.top
                                 have q2 := hC.lrelo.top
                                 have q3 := fTop_0 (M := M)
                                 omega)))
                · dsimp only [jpush]
                  first
                   | (exfalso; omega)
                   | (skip
                      refine e_if_eq 30 56 dX12_interest_27 (by decide) (by decide) rfl (fun _ => ?_) (fun h => absurd h (by decide))
                      refine e_bipush 58 dX12_interest_56 (by decide) rfl ?_
                      refine e_iret dX12_interest_58 ?_
                      first
                        | (exact ⟨by omega, hI⟩)
                        | (rw [hC.lrel.chg]
                           exact ⟨by omega, hI⟩)
                        | (rw [hC.lrelo.chg]
                           exact ⟨by omega, hI⟩)
                        | (exfalso
                           have q1 := hC.lrel.top
                           have q2 := hC.lrelo.top
                           have q3 := fTop_0 (M := M)
                           omega)))
          · dsimp only [jpush]
            first
             | (exfalso; omega)
             | (skip
                refine e_if_ne 15 18 dX12_interest_12 (by decide) (by decide) rfl (fun h => absurd h (by decide)) (fun _ => ?_)
                refine e_bipush 17 dX12_interest_15 (by decide) rfl ?_
                refine e_iret dX12_interest_17 ?_
                first
                  | (exact ⟨by omega, hI⟩)
                  | (rw [hC.lrel.chg]
                     exact ⟨by omega, hI⟩)
                  | (rw [hC.lrelo.chg]
                     exact ⟨by omega, hI⟩)
                  | (exfalso
                     have q1 := hC.lrel.top
                     have q2 := hC.lrelo.top
                     have q3 := fTop_0 (M := M)
                     omega))
      · dsimp only [jpush]
        refine e_if_eq 19 42 dX11_interest_16 (by decide) (by decide) rfl (fun _ => ?_) (fun h => absurd h (by decide))
        refine e_bipush 44 dX11_interest_42 (by decide) rfl ?_
        refine e_iret dX11_interest_44 ?_
        refine jCt_of mt_yX12_interest (Nat.le_of_ble_eq_true rfl) (fun X2 => ?_)
        refine e_aload_n (i := 0) 1 dX12_interest_0 rfl rfl rfl ?_
        refine e_iconst 2 dX12_interest_1 rfl ?_
        refine e_put0 (j := 0) 5 fl_12_1 dX12_interest_2 at_928 rfl rfl rfl (by decide) hI.1 rfl ?_
        refine e_iload_n (i := 1) 6 dX12_interest_5 rfl rfl rfl ?_
        refine e_i2l 7 dX12_interest_6 (by omega) rfl ?_
        refine e_lconst0 8 dX12_interest_7 rfl ?_
        refine e_lconst1 9 dX12_interest_8 rfl ?_
        refine e_callS 12 mt_yX12_within ms_yX12_within wd_1390 (by decide) dX12_interest_9 rfl rfl (Nat.le_of_ble_eq_true rfl) (jroom (by decide)) rfl (m_within (by omega) (by omega) (by omega) (fun w9 => ?_) (fun w9 => ?_))
        · dsimp only [jpush]
          first
           | (exfalso; omega)
           | (skip
              refine e_if_ne 15 18 dX12_interest_12 (by decide) (by decide) rfl (fun _ => ?_) (fun h => absurd h (by decide))
              refine e_iload_n (i := 2) 19 dX12_interest_18 rfl rfl rfl ?_
              refine e_i2l 20 dX12_interest_19 (by omega) rfl ?_
              refine e_lconst1 21 dX12_interest_20 rfl ?_
              refine e_ldc2 (z := (999)) 24 (ix := 198) wd_1482 (by decide) dX12_interest_21 rfl ?_
              refine e_callS 27 mt_yX12_within ms_yX12_within wd_1390 (by decide) dX12_interest_24 rfl rfl (Nat.le_of_ble_eq_true rfl) (jroom (by decide)) rfl (m_within (by omega) (by omega) (by omega) (fun w24 => ?_) (fun w24 => ?_))
              · dsimp only [jpush]
                first
                 | (exfalso; omega)
                 | (skip
                    refine e_if_eq 30 56 dX12_interest_27 (by decide) (by decide) rfl (fun h => absurd h (by decide)) (fun _ => ?_)
                    refine e_iload_n (i := 3) 31 dX12_interest_30 rfl rfl rfl ?_
                    refine e_i2l 32 dX12_interest_31 (by omega) rfl ?_
                    refine e_lconst0 33 dX12_interest_32 rfl ?_
                    refine e_ldc2 (z := (300)) 36 (ix := 200) wd_1483 (by decide) dX12_interest_33 rfl ?_
                    refine e_callS 39 mt_yX12_within ms_yX12_within wd_1390 (by decide) dX12_interest_36 rfl rfl (Nat.le_of_ble_eq_true rfl) (jroom (by decide)) rfl (m_within (by omega) (by omega) (by omega) (fun w36 => ?_) (fun w36 => ?_))
                    · dsimp only [jpush]
                      first
                       | (exfalso; omega)
                       | (skip
                          refine e_if_eq 42 56 dX12_interest_39 (by decide) (by decide) rfl (fun h => absurd h (by decide)) (fun _ => ?_)
                          refine e_iload 44 dX12_interest_42 rfl rfl ?_
                          refine e_i2l 45 dX12_interest_44 (by omega) rfl ?_
                          refine e_iload_n (i := 3) 46 dX12_interest_45 rfl rfl rfl ?_
                          refine e_i2l 47 dX12_interest_46 (by omega) rfl ?_
                          refine e_ldc2 (z := (300)) 50 (ix := 200) wd_1483 (by decide) dX12_interest_47 rfl ?_
                          refine e_callS 53 mt_yX12_within ms_yX12_within wd_1390 (by decide) dX12_interest_50 rfl rfl (Nat.le_of_ble_eq_true rfl) (jroom (by decide)) rfl (m_within (by omega) (by omega) (by omega) (fun w50 => ?_) (fun w50 => ?_))
                          · dsimp only [jpush]
                            first
                             | (exfalso; omega)
                             | (skip
                                refine e_if_ne 56 59 dX12_interest_53 (by decide) (by decide) rfl (fun _ => ?_) (fun h => absurd h (by decide))
                                refine e_iload_n (i := 1) 60 dX12_interest_59 rfl rfl rfl ?_
                                refine e_iconst 61 dX12_interest_60 rfl ?_
                                refine e_icmp_ne 64 78 dX12_interest_61 (by omega) (by decide) (by decide) rfl (fun b61 => ?_) (fun b61 => ?_)
                                · first
                                   | (exfalso; omega)
                                   | (skip
                                      refine e_aload_n (i := 0) 79 dX12_interest_78 rfl rfl rfl ?_
                                      refine e_iload_n (i := 1) 80 dX12_interest_79 rfl rfl rfl ?_
                                      refine e_if_ne 83 87 dX12_interest_80 (by omega) (by decide) rfl (fun b80 => ?_) (fun b80 => ?_)
                                      · first
                                         | (exfalso; omega)
                                         | (skip
                                            refine e_bipush 89 dX12_interest_87 (by decide) rfl ?_
                                            refine e_iload_n (i := 2) 90 dX12_interest_89 rfl rfl rfl ?_
                                            refine e_iload 92 dX12_interest_90 rfl rfl ?_
                                            refine e_iload_n (i := 3) 93 dX12_interest_92 rfl rfl rfl ?_
                                            refine e_isub 94 dX12_interest_93 rfl ?_
                                            refine e_callS 97 mt_yX12_halvesOf ms_yX12_halvesOf wd_1484 (by decide) dX12_interest_94 rfl rfl (Nat.le_of_ble_eq_true rfl) (jroom (by decide)) rfl (m_halvesOf (by omega) ?_)
                                            dsimp only [jpush]
                                            refine e_callV 100 mt_yX12_interestBy mv_yX12_interestBy wd_1487 (by decide) dX12_interest_97 at_928 jc_12 rfl rfl rfl (Nat.le_of_ble_eq_true rfl) (jroom (by decide)) rfl (m_interestBy (by decide) (by omega) (by omega) hC.rolaw (fun w97 => ?_) (fun w97 => ?_))
                                            · dsimp only [jpush]
                                              have hr1 := rChg_rng (loan := loan) (hv := 1 + (to - fr) / 2) hC.rlaw (by omega) (by omega)
                                              have hr2 := rChg_rng (loan := loan) (hv := 1 + (to - fr) / 2) hC.rolaw (by omega) (by omega)
                                              first
                                               | (exfalso; omega)
                                               | (skip
                                                  refine e_istore (lsn := [(5, _), (0, _), (1, _), (2, _), (3, _), (4, _)]) 102 dX12_interest_100 (by decide) rfl rfl ?_
                                                  refine e_iload 104 dX12_interest_102 rfl rfl ?_
                                                  refine e_iconst 105 dX12_interest_104 rfl ?_
                                                  refine e_icmp_ne 108 113 dX12_interest_105 (by omega) (by decide) (by decide) rfl (fun b105 => ?_) (fun b105 => ?_)
                                                  · first
                                                     | (exfalso; omega)
                                                     | (skip
                                                        refine e_iload 115 dX12_interest_113 rfl rfl ?_
                                                        refine e_iret dX12_interest_115 ?_
                                                        first
                                                          | (exact ⟨by omega, hI⟩)
                                                          | (rw [hC.lrel.chg]
                                                             exact ⟨by omega, hI⟩)
                                                          | (rw [hC.lrelo.chg]
                                                             exact ⟨by omega, hI⟩)
                                                          | (exfalso
                                                             have q1 := hC.lrel.top
                                                             have q2 := hC.lrelo.top
                                                             have q3 := fTop_0 (M := M)
                                                             omega))
                                                  · first
                                                     | (exfalso; omega)
                                                     | (skip
                                                        refine e_bipush 110 dX12_interest_108 (by decide) rfl ?_
                                                        refine e_goto 115 dX12_interest_110 (by decide) ?_
                                                        refine e_iret dX12_interest_115 ?_
                                                        first
                                                          | (exact ⟨by omega, hI⟩)
                                                          | (rw [hC.lrel.chg]
                                                             exact ⟨by omega, hI⟩)
                                                          | (rw [hC.lrelo.chg]
                                                             exact ⟨by omega, hI⟩)
                                                          | (exfalso
                                                             have q1 := hC.lrel.top
                                                             have q2 := hC.lrelo.top
                                                             have q3 := fTop_0 (M := M)
                                                             omega)))
                                            · dsimp only [jpush]
                                              have hr1 := rChg_rng (loan := loan) (hv := 1 + (to - fr) / 2) hC.rlaw (by omega) (by omega)
                                              have hr2 := rChg_rng (loan := loan) (hv := 1 + (to - fr) / 2) hC.rolaw (by omega) (by omega)
                                              first
                                               | (exfalso; omega)
                                               | (skip
                                                  refine e_istore (lsn := [(5, _), (0, _), (1, _), (2, _), (3, _), (4, _)]) 102 dX12_interest_100 (by decide) rfl rfl ?_
                                                  refine e_iload 104 dX12_interest_102 rfl rfl ?_
                                                  refine e_iconst 105 dX12_interest_104 rfl ?_
                                                  refine e_icmp_ne 108 113 dX12_interest_105 (by decide) (by decide) (by decide) rfl (fun h => absurd h (by decide)) (fun _ => ?_)
                                                  refine e_bipush 110 dX12_interest_108 (by decide) rfl ?_
                                                  refine e_goto 115 dX12_interest_110 (by decide) ?_
                                                  refine e_iret dX12_interest_115 ?_
                                                  first
                                                    | (exact ⟨by omega, hI⟩)
                                                    | (rw [hC.lrel.chg]
                                                       exact ⟨by omega, hI⟩)
                                                    | (rw [hC.lrelo.chg]
                                                       exact ⟨by omega, hI⟩)
                                                    | (exfalso
                                                       have q1 := hC.lrel.top
                                                       have q2 := hC.lrelo.top
                                                       have q3 := fTop_0 (M := M)
                                                       omega)))
                                      · first
                                         | (exfalso; omega)
                                         | (skip
                                            refine e_iconst 84 dX12_interest_83 rfl ?_
                                            refine e_goto 89 dX12_interest_84 (by decide) ?_
                                            refine e_iload_n (i := 2) 90 dX12_interest_89 rfl rfl rfl ?_
                                            refine e_iload 92 dX12_interest_90 rfl rfl ?_
                                            refine e_iload_n (i := 3) 93 dX12_interest_92 rfl rfl rfl ?_
                                            refine e_isub 94 dX12_interest_93 rfl ?_
                                            refine e_callS 97 mt_yX12_halvesOf ms_yX12_halvesOf wd_1484 (by decide) dX12_interest_94 rfl rfl (Nat.le_of_ble_eq_true rfl) (jroom (by decide)) rfl (m_halvesOf (by omega) ?_)
                                            dsimp only [jpush]
                                            refine e_callV 100 mt_yX12_interestBy mv_yX12_interestBy wd_1487 (by decide) dX12_interest_97 at_928 jc_12 rfl rfl rfl (Nat.le_of_ble_eq_true rfl) (jroom (by decide)) rfl (m_interestBy (by decide) (by omega) (by omega) hC.rlaw (fun w97 => ?_) (fun w97 => ?_))
                                            · dsimp only [jpush]
                                              have hr1 := rChg_rng (loan := loan) (hv := 1 + (to - fr) / 2) hC.rlaw (by omega) (by omega)
                                              have hr2 := rChg_rng (loan := loan) (hv := 1 + (to - fr) / 2) hC.rolaw (by omega) (by omega)
                                              first
                                               | (exfalso; omega)
                                               | (skip
                                                  refine e_istore (lsn := [(5, _), (0, _), (1, _), (2, _), (3, _), (4, _)]) 102 dX12_interest_100 (by decide) rfl rfl ?_
                                                  refine e_iload 104 dX12_interest_102 rfl rfl ?_
                                                  refine e_iconst 105 dX12_interest_104 rfl ?_
                                                  refine e_icmp_ne 108 113 dX12_interest_105 (by omega) (by decide) (by decide) rfl (fun b105 => ?_) (fun b105 => ?_)
                                                  · first
                                                     | (exfalso; omega)
                                                     | (skip
                                                        refine e_iload 115 dX12_interest_113 rfl rfl ?_
                                                        refine e_iret dX12_interest_115 ?_
                                                        first
                                                          | (exact ⟨by omega, hI⟩)
                                                          | (rw [hC.lrel.chg]
                                                             exact ⟨by omega, hI⟩)
                                                          | (rw [hC.lrelo.chg]
                                                             exact ⟨by omega, hI⟩)
                                                          | (exfalso
                                                             have q1 := hC.lrel.top
                                                             have q2 := hC.lrelo.top
                                                             have q3 := fTop_0 (M := M)
                                                             omega))
                                                  · first
                                                     | (exfalso; omega)
                                                     | (skip
                                                        refine e_bipush 110 dX12_interest_108 (by decide) rfl ?_
                                                        refine e_goto 115 dX12_interest_110 (by decide) ?_
                                                        refine e_iret dX12_interest_115 ?_
                                                        first
                                                          | (exact ⟨by omega, hI⟩)
                                                          | (rw [hC.lrel.chg]
                                                             exact ⟨by omega, hI⟩)
                                                          | (rw [hC.lrelo.chg]
                                                             exact ⟨by omega, hI⟩)
                                                          | (exfalso
                                                             have q1 := hC.lrel.top
                                                             have q2 := hC.lrelo.top
                                                             have q3 := fTop_0 (M := M)
                                                             omega)))
                                            · dsimp only [jpush]
                                              have hr1 := rChg_rng (loan := loan) (hv := 1 + (to - fr) / 2) hC.rlaw (by omega) (by omega)
                                              have hr2 := rChg_rng (loan := loan) (hv := 1 + (to - fr) / 2) hC.rolaw (by omega) (by omega)
                                              first
                                               | (exfalso; omega)
                                               | (skip
                                                  refine e_istore (lsn := [(5, _), (0, _), (1, _), (2, _), (3, _), (4, _)]) 102 dX12_interest_100 (by decide) rfl rfl ?_
                                                  refine e_iload 104 dX12_interest_102 rfl rfl ?_
                                                  refine e_iconst 105 dX12_interest_104 rfl ?_
                                                  refine e_icmp_ne 108 113 dX12_interest_105 (by decide) (by decide) (by decide) rfl (fun h => absurd h (by decide)) (fun _ => ?_)
                                                  refine e_bipush 110 dX12_interest_108 (by decide) rfl ?_
                                                  refine e_goto 115 dX12_interest_110 (by decide) ?_
                                                  refine e_iret dX12_interest_115 ?_
                                                  first
                                                    | (exact ⟨by omega, hI⟩)
                                                    | (rw [hC.lrel.chg]
                                                       exact ⟨by omega, hI⟩)
                                                    | (rw [hC.lrelo.chg]
                                                       exact ⟨by omega, hI⟩)
                                                    | (exfalso
                                                       have q1 := hC.lrel.top
                                                       have q2 := hC.lrelo.top
                                                       have q3 := fTop_0 (M := M)
                                                       omega))))
                                · first
                                   | (exfalso; omega)
                                   | (skip
                                      refine e_aload_n (i := 0) 65 dX12_interest_64 rfl rfl rfl ?_
                                      refine e_getr (j := 1) 68 fl_12_13 dX12_interest_65 at_928 rfl rfl tp_928_1 rfl ?_
                                      refine e_bipush 70 dX12_interest_68 (by decide) rfl ?_
                                      refine e_iald 71 dX12_interest_70 ar_929 (by decide) (by decide) rfl (fun r70 => ?_)
                                      refine e_if_ne 74 78 dX12_interest_71 (by omega) (by decide) rfl (fun b71 => ?_) (fun b71 => ?_)
                                      · first
                                         | (exfalso; omega)
                                         | (skip
                                            refine e_aload_n (i := 0) 79 dX12_interest_78 rfl rfl rfl ?_
                                            refine e_iload_n (i := 1) 80 dX12_interest_79 rfl rfl rfl ?_
                                            refine e_if_ne 83 87 dX12_interest_80 (by omega) (by decide) rfl (fun b80 => ?_) (fun b80 => ?_)
                                            · first
                                               | (exfalso; omega)
                                               | (skip
                                                  refine e_bipush 89 dX12_interest_87 (by decide) rfl ?_
                                                  refine e_iload_n (i := 2) 90 dX12_interest_89 rfl rfl rfl ?_
                                                  refine e_iload 92 dX12_interest_90 rfl rfl ?_
                                                  refine e_iload_n (i := 3) 93 dX12_interest_92 rfl rfl rfl ?_
                                                  refine e_isub 94 dX12_interest_93 rfl ?_
                                                  refine e_callS 97 mt_yX12_halvesOf ms_yX12_halvesOf wd_1484 (by decide) dX12_interest_94 rfl rfl (Nat.le_of_ble_eq_true rfl) (jroom (by decide)) rfl (m_halvesOf (by omega) ?_)
                                                  dsimp only [jpush]
                                                  refine e_callV 100 mt_yX12_interestBy mv_yX12_interestBy wd_1487 (by decide) dX12_interest_97 at_928 jc_12 rfl rfl rfl (Nat.le_of_ble_eq_true rfl) (jroom (by decide)) rfl (m_interestBy (by decide) (by omega) (by omega) hC.rolaw (fun w97 => ?_) (fun w97 => ?_))
                                                  · dsimp only [jpush]
                                                    have hr1 := rChg_rng (loan := loan) (hv := 1 + (to - fr) / 2) hC.rlaw (by omega) (by omega)
                                                    have hr2 := rChg_rng (loan := loan) (hv := 1 + (to - fr) / 2) hC.rolaw (by omega) (by omega)
                                                    first
                                                     | (exfalso; omega)
                                                     | (skip
                                                        refine e_istore (lsn := [(5, _), (0, _), (1, _), (2, _), (3, _), (4, _)]) 102 dX12_interest_100 (by decide) rfl rfl ?_
                                                        refine e_iload 104 dX12_interest_102 rfl rfl ?_
                                                        refine e_iconst 105 dX12_interest_104 rfl ?_
                                                        refine e_icmp_ne 108 113 dX12_interest_105 (by omega) (by decide) (by decide) rfl (fun b105 => ?_) (fun b105 => ?_)
                                                        · first
                                                           | (exfalso; omega)
                                                           | (skip
                                                              refine e_iload 115 dX12_interest_113 rfl rfl ?_
                                                              refine e_iret dX12_interest_115 ?_
                                                              first
                                                                | (exact ⟨by omega, hI⟩)
                                                                | (rw [hC.lrel.chg]
                                                                   exact ⟨by omega, hI⟩)
                                                                | (rw [hC.lrelo.chg]
                                                                   exact ⟨by omega, hI⟩)
                                                                | (exfalso
                                                                   have q1 := hC.lrel.top
                                                                   have q2 := hC.lrelo.top
                                                                   have q3 := fTop_0 (M := M)
                                                                   omega))
                                                        · first
                                                           | (exfalso; omega)
                                                           | (skip
                                                              refine e_bipush 110 dX12_interest_108 (by decide) rfl ?_
                                                              refine e_goto 115 dX12_interest_110 (by decide) ?_
                                                              refine e_iret dX12_interest_115 ?_
                                                              first
                                                                | (exact ⟨by omega, hI⟩)
                                                                | (rw [hC.lrel.chg]
                                                                   exact ⟨by omega, hI⟩)
                                                                | (rw [hC.lrelo.chg]
                                                                   exact ⟨by omega, hI⟩)
                                                                | (exfalso
                                                                   have q1 := hC.lrel.top
                                                                   have q2 := hC.lrelo.top
                                                                   have q3 := fTop_0 (M := M)
                                                                   omega)))
                                                  · dsimp only [jpush]
                                                    have hr1 := rChg_rng (loan := loan) (hv := 1 + (to - fr) / 2) hC.rlaw (by omega) (by omega)
                                                    have hr2 := rChg_rng (loan := loan) (hv := 1 + (to - fr) / 2) hC.rolaw (by omega) (by omega)
                                                    first
                                                     | (exfalso; omega)
                                                     | (skip
                                                        refine e_istore (lsn := [(5, _), (0, _), (1, _), (2, _), (3, _), (4, _)]) 102 dX12_interest_100 (by decide) rfl rfl ?_
                                                        refine e_iload 104 dX12_interest_102 rfl rfl ?_
                                                        refine e_iconst 105 dX12_interest_104 rfl ?_
                                                        refine e_icmp_ne 108 113 dX12_interest_105 (by decide) (by decide) (by decide) rfl (fun h => absurd h (by decide)) (fun _ => ?_)
                                                        refine e_bipush 110 dX12_interest_108 (by decide) rfl ?_
                                                        refine e_goto 115 dX12_interest_110 (by decide) ?_
                                                        refine e_iret dX12_interest_115 ?_
                                                        first
                                                          | (exact ⟨by omega, hI⟩)
                                                          | (rw [hC.lrel.chg]
                                                             exact ⟨by omega, hI⟩)
                                                          | (rw [hC.lrelo.chg]
                                                             exact ⟨by omega, hI⟩)
                                                          | (exfalso
                                                             have q1 := hC.lrel.top
                                                             have q2 := hC.lrelo.top
                                                             have q3 := fTop_0 (M := M)
                                                             omega)))
                                            · first
                                               | (exfalso; omega)
                                               | (skip
                                                  refine e_iconst 84 dX12_interest_83 rfl ?_
                                                  refine e_goto 89 dX12_interest_84 (by decide) ?_
                                                  refine e_iload_n (i := 2) 90 dX12_interest_89 rfl rfl rfl ?_
                                                  refine e_iload 92 dX12_interest_90 rfl rfl ?_
                                                  refine e_iload_n (i := 3) 93 dX12_interest_92 rfl rfl rfl ?_
                                                  refine e_isub 94 dX12_interest_93 rfl ?_
                                                  refine e_callS 97 mt_yX12_halvesOf ms_yX12_halvesOf wd_1484 (by decide) dX12_interest_94 rfl rfl (Nat.le_of_ble_eq_true rfl) (jroom (by decide)) rfl (m_halvesOf (by omega) ?_)
                                                  dsimp only [jpush]
                                                  refine e_callV 100 mt_yX12_interestBy mv_yX12_interestBy wd_1487 (by decide) dX12_interest_97 at_928 jc_12 rfl rfl rfl (Nat.le_of_ble_eq_true rfl) (jroom (by decide)) rfl (m_interestBy (by decide) (by omega) (by omega) hC.rlaw (fun w97 => ?_) (fun w97 => ?_))
                                                  · dsimp only [jpush]
                                                    have hr1 := rChg_rng (loan := loan) (hv := 1 + (to - fr) / 2) hC.rlaw (by omega) (by omega)
                                                    have hr2 := rChg_rng (loan := loan) (hv := 1 + (to - fr) / 2) hC.rolaw (by omega) (by omega)
                                                    first
                                                     | (exfalso; omega)
                                                     | (skip
                                                        refine e_istore (lsn := [(5, _), (0, _), (1, _), (2, _), (3, _), (4, _)]) 102 dX12_interest_100 (by decide) rfl rfl ?_
                                                        refine e_iload 104 dX12_interest_102 rfl rfl ?_
                                                        refine e_iconst 105 dX12_interest_104 rfl ?_
                                                        refine e_icmp_ne 108 113 dX12_interest_105 (by omega) (by decide) (by decide) rfl (fun b105 => ?_) (fun b105 => ?_)
                                                        · first
                                                           | (exfalso; omega)
                                                           | (skip
                                                              refine e_iload 115 dX12_interest_113 rfl rfl ?_
                                                              refine e_iret dX12_interest_115 ?_
                                                              first
                                                                | (exact ⟨by omega, hI⟩)
                                                                | (rw [hC.lrel.chg]
                                                                   exact ⟨by omega, hI⟩)
                                                                | (rw [hC.lrelo.chg]
                                                                   exact ⟨by omega, hI⟩)
                                                                | (exfalso
                                                                   have q1 := hC.lrel.top
                                                                   have q2 := hC.lrelo.top
                                                                   have q3 := fTop_0 (M := M)
                                                                   omega))
                                                        · first
                                                           | (exfalso; omega)
                                                           | (skip
                                                              refine e_bipush 110 dX12_interest_108 (by decide) rfl ?_
                                                              refine e_goto 115 dX12_interest_110 (by decide) ?_
                                                              refine e_iret dX12_interest_115 ?_
                                                              first
                                                                | (exact ⟨by omega, hI⟩)
                                                                | (rw [hC.lrel.chg]
                                                                   exact ⟨by omega, hI⟩)
                                                                | (rw [hC.lrelo.chg]
                                                                   exact ⟨by omega, hI⟩)
                                                                | (exfalso
                                                                   have q1 := hC.lrel.top
                                                                   have q2 := hC.lrelo.top
                                                                   have q3 := fTop_0 (M := M)
                                                                   omega)))
                                                  · dsimp only [jpush]
                                                    have hr1 := rChg_rng (loan := loan) (hv := 1 + (to - fr) / 2) hC.rlaw (by omega) (by omega)
                                                    have hr2 := rChg_rng (loan := loan) (hv := 1 + (to - fr) / 2) hC.rolaw (by omega) (by omega)
                                                    first
                                                     | (exfalso; omega)
                                                     | (skip
                                                        refine e_istore (lsn := [(5, _), (0, _), (1, _), (2, _), (3, _), (4, _)]) 102 dX12_interest_100 (by decide) rfl rfl ?_
                                                        refine e_iload 104 dX12_interest_102 rfl rfl ?_
                                                        refine e_iconst 105 dX12_interest_104 rfl ?_
                                                        refine e_icmp_ne 108 113 dX12_interest_105 (by decide) (by decide) (by decide) rfl (fun h => absurd h (by decide)) (fun _ => ?_)
                                                        refine e_bipush 110 dX12_interest_108 (by decide) rfl ?_
                                                        refine e_goto 115 dX12_interest_110 (by decide) ?_
                                                        refine e_iret dX12_interest_115 ?_
                                                        first
                                                          | (exact ⟨by omega, hI⟩)
                                                          | (rw [hC.lrel.chg]
                                                             exact ⟨by omega, hI⟩)
                                                          | (rw [hC.lrelo.chg]
                                                             exact ⟨by omega, hI⟩)
                                                          | (exfalso
                                                             have q1 := hC.lrel.top
                                                             have q2 := hC.lrelo.top
                                                             have q3 := fTop_0 (M := M)
                                                             omega))))
                                      · first
                                         | (exfalso; omega)
                                         | (skip
                                            refine e_iconst 75 dX12_interest_74 rfl ?_
                                            refine e_goto 100 dX12_interest_75 (by decide) ?_
                                            refine e_istore (lsn := [(5, _), (0, _), (1, _), (2, _), (3, _), (4, _)]) 102 dX12_interest_100 (by decide) rfl rfl ?_
                                            refine e_iload 104 dX12_interest_102 rfl rfl ?_
                                            refine e_iconst 105 dX12_interest_104 rfl ?_
                                            refine e_icmp_ne 108 113 dX12_interest_105 (by decide) (by decide) (by decide) rfl (fun h => absurd h (by decide)) (fun _ => ?_)
                                            refine e_bipush 110 dX12_interest_108 (by decide) rfl ?_
                                            refine e_goto 115 dX12_interest_110 (by decide) ?_
                                            refine e_iret dX12_interest_115 ?_
                                            first
                                              | (exact ⟨by omega, hI⟩)
                                              | (rw [hC.lrel.chg]
                                                 exact ⟨by omega, hI⟩)
                                              | (rw [hC.lrelo.chg]
                                                 exact ⟨by omega, hI⟩)
                                              | (exfalso
                                                 have q1 := hC.lrel.top
                                                 have q2 := hC.lrelo.top
                                                 have q3 := fTop_0 (M := M)
                                                 omega))))
                          · dsimp only [jpush]
                            first
                             | (exfalso; omega)
                             | (skip
                                refine e_if_ne 56 59 dX12_interest_53 (by decide) (by decide) rfl (fun h => absurd h (by decide)) (fun _ => ?_)
                                refine e_bipush 58 dX12_interest_56 (by decide) rfl ?_
                                refine e_iret dX12_interest_58 ?_
                                first
                                  | (exact ⟨by omega, hI⟩)
                                  | (rw [hC.lrel.chg]
                                     exact ⟨by omega, hI⟩)
                                  | (rw [hC.lrelo.chg]
                                     exact ⟨by omega, hI⟩)
                                  | (exfalso
                                     have q1 := hC.lrel.top
                                     have q2 := hC.lrelo.top
                                     have q3 := fTop_0 (M := M)
                                     omega)))
                    · dsimp only [jpush]
                      first
                       | (exfalso; omega)
                       | (skip
                          refine e_if_eq 42 56 dX12_interest_39 (by decide) (by decide) rfl (fun _ => ?_) (fun h => absurd h (by decide))
                          refine e_bipush 58 dX12_interest_56 (by decide) rfl ?_
                          refine e_iret dX12_interest_58 ?_
                          first
                            | (exact ⟨by omega, hI⟩)
                            | (rw [hC.lrel.chg]
                               exact ⟨by omega, hI⟩)
                            | (rw [hC.lrelo.chg]
                               exact ⟨by omega, hI⟩)
                            | (exfalso
                               have q1 := hC.lrel.top
                               have q2 := hC.lrelo.top
                               have q3 := fTop_0 (M := M)
                               omega)))
              · dsimp only [jpush]
                first
                 | (exfalso; omega)
                 | (skip
                    refine e_if_eq 30 56 dX12_interest_27 (by decide) (by decide) rfl (fun _ => ?_) (fun h => absurd h (by decide))
                    refine e_bipush 58 dX12_interest_56 (by decide) rfl ?_
                    refine e_iret dX12_interest_58 ?_
                    first
                      | (exact ⟨by omega, hI⟩)
                      | (rw [hC.lrel.chg]
                         exact ⟨by omega, hI⟩)
                      | (rw [hC.lrelo.chg]
                         exact ⟨by omega, hI⟩)
                      | (exfalso
                         have q1 := hC.lrel.top
                         have q2 := hC.lrelo.top
                         have q3 := fTop_0 (M := M)
                         omega)))
        · dsimp only [jpush]
          first
           | (exfalso; omega)
           | (skip
              refine e_if_ne 15 18 dX12_interest_12 (by decide) (by decide) rfl (fun h => absurd h (by decide)) (fun _ => ?_)
              refine e_bipush 17 dX12_interest_15 (by decide) rfl ?_
              refine e_iret dX12_interest_17 ?_
              first
                | (exact ⟨by omega, hI⟩)
                | (rw [hC.lrel.chg]
                   exact ⟨by omega, hI⟩)
                | (rw [hC.lrelo.chg]
                   exact ⟨by omega, hI⟩)
                | (exfalso
                   have q1 := hC.lrel.top
                   have q2 := hC.lrelo.top
                   have q3 := fTop_0 (M := M)
                   omega))
    · skip
      refine e_bipush 11 dX11_interest_9 (by decide) rfl ?_
      refine e_iret dX11_interest_11 ?_
      refine jCt_of mt_yX12_interest (Nat.le_of_ble_eq_true rfl) (fun X2 => ?_)
      refine e_aload_n (i := 0) 1 dX12_interest_0 rfl rfl rfl ?_
      refine e_iconst 2 dX12_interest_1 rfl ?_
      refine e_put0 (j := 0) 5 fl_12_1 dX12_interest_2 at_928 rfl rfl rfl (by decide) hI.1 rfl ?_
      refine e_iload_n (i := 1) 6 dX12_interest_5 rfl rfl rfl ?_
      refine e_i2l 7 dX12_interest_6 (by omega) rfl ?_
      refine e_lconst0 8 dX12_interest_7 rfl ?_
      refine e_lconst1 9 dX12_interest_8 rfl ?_
      refine e_callS 12 mt_yX12_within ms_yX12_within wd_1390 (by decide) dX12_interest_9 rfl rfl (Nat.le_of_ble_eq_true rfl) (jroom (by decide)) rfl (m_within (by omega) (by omega) (by omega) (fun w9 => ?_) (fun w9 => ?_))
      · dsimp only [jpush]
        first
         | (exfalso; omega)
         | (skip
            refine e_if_ne 15 18 dX12_interest_12 (by decide) (by decide) rfl (fun _ => ?_) (fun h => absurd h (by decide))
            refine e_iload_n (i := 2) 19 dX12_interest_18 rfl rfl rfl ?_
            refine e_i2l 20 dX12_interest_19 (by omega) rfl ?_
            refine e_lconst1 21 dX12_interest_20 rfl ?_
            refine e_ldc2 (z := (999)) 24 (ix := 198) wd_1482 (by decide) dX12_interest_21 rfl ?_
            refine e_callS 27 mt_yX12_within ms_yX12_within wd_1390 (by decide) dX12_interest_24 rfl rfl (Nat.le_of_ble_eq_true rfl) (jroom (by decide)) rfl (m_within (by omega) (by omega) (by omega) (fun w24 => ?_) (fun w24 => ?_))
            · dsimp only [jpush]
              first
               | (exfalso; omega)
               | (skip
                  refine e_if_eq 30 56 dX12_interest_27 (by decide) (by decide) rfl (fun h => absurd h (by decide)) (fun _ => ?_)
                  refine e_iload_n (i := 3) 31 dX12_interest_30 rfl rfl rfl ?_
                  refine e_i2l 32 dX12_interest_31 (by omega) rfl ?_
                  refine e_lconst0 33 dX12_interest_32 rfl ?_
                  refine e_ldc2 (z := (300)) 36 (ix := 200) wd_1483 (by decide) dX12_interest_33 rfl ?_
                  refine e_callS 39 mt_yX12_within ms_yX12_within wd_1390 (by decide) dX12_interest_36 rfl rfl (Nat.le_of_ble_eq_true rfl) (jroom (by decide)) rfl (m_within (by omega) (by omega) (by omega) (fun w36 => ?_) (fun w36 => ?_))
                  · dsimp only [jpush]
                    first
                     | (exfalso; omega)
                     | (skip
                        refine e_if_eq 42 56 dX12_interest_39 (by decide) (by decide) rfl (fun h => absurd h (by decide)) (fun _ => ?_)
                        refine e_iload 44 dX12_interest_42 rfl rfl ?_
                        refine e_i2l 45 dX12_interest_44 (by omega) rfl ?_
                        refine e_iload_n (i := 3) 46 dX12_interest_45 rfl rfl rfl ?_
                        refine e_i2l 47 dX12_interest_46 (by omega) rfl ?_
                        refine e_ldc2 (z := (300)) 50 (ix := 200) wd_1483 (by decide) dX12_interest_47 rfl ?_
                        refine e_callS 53 mt_yX12_within ms_yX12_within wd_1390 (by decide) dX12_interest_50 rfl rfl (Nat.le_of_ble_eq_true rfl) (jroom (by decide)) rfl (m_within (by omega) (by omega) (by omega) (fun w50 => ?_) (fun w50 => ?_))
                        · dsimp only [jpush]
                          first
                           | (exfalso; omega)
                           | (skip
                              refine e_if_ne 56 59 dX12_interest_53 (by decide) (by decide) rfl (fun _ => ?_) (fun h => absurd h (by decide))
                              refine e_iload_n (i := 1) 60 dX12_interest_59 rfl rfl rfl ?_
                              refine e_iconst 61 dX12_interest_60 rfl ?_
                              refine e_icmp_ne 64 78 dX12_interest_61 (by omega) (by decide) (by decide) rfl (fun b61 => ?_) (fun b61 => ?_)
                              · first
                                 | (exfalso; omega)
                                 | (skip
                                    refine e_aload_n (i := 0) 79 dX12_interest_78 rfl rfl rfl ?_
                                    refine e_iload_n (i := 1) 80 dX12_interest_79 rfl rfl rfl ?_
                                    refine e_if_ne 83 87 dX12_interest_80 (by omega) (by decide) rfl (fun b80 => ?_) (fun b80 => ?_)
                                    · first
                                       | (exfalso; omega)
                                       | (skip
                                          refine e_bipush 89 dX12_interest_87 (by decide) rfl ?_
                                          refine e_iload_n (i := 2) 90 dX12_interest_89 rfl rfl rfl ?_
                                          refine e_iload 92 dX12_interest_90 rfl rfl ?_
                                          refine e_iload_n (i := 3) 93 dX12_interest_92 rfl rfl rfl ?_
                                          refine e_isub 94 dX12_interest_93 rfl ?_
                                          refine e_callS 97 mt_yX12_halvesOf ms_yX12_halvesOf wd_1484 (by decide) dX12_interest_94 rfl rfl (Nat.le_of_ble_eq_true rfl) (jroom (by decide)) rfl (m_halvesOf (by omega) ?_)
                                          dsimp only [jpush]
                                          refine e_callV 100 mt_yX12_interestBy mv_yX12_interestBy wd_1487 (by decide) dX12_interest_97 at_928 jc_12 rfl rfl rfl (Nat.le_of_ble_eq_true rfl) (jroom (by decide)) rfl (m_interestBy (by decide) (by omega) (by omega) hC.rolaw (fun w97 => ?_) (fun w97 => ?_))
                                          · dsimp only [jpush]
                                            have hr1 := rChg_rng (loan := loan) (hv := 1 + (to - fr) / 2) hC.rlaw (by omega) (by omega)
                                            have hr2 := rChg_rng (loan := loan) (hv := 1 + (to - fr) / 2) hC.rolaw (by omega) (by omega)
                                            first
                                             | (exfalso; omega)
                                             | (skip
                                                refine e_istore (lsn := [(5, _), (0, _), (1, _), (2, _), (3, _), (4, _)]) 102 dX12_interest_100 (by decide) rfl rfl ?_
                                                refine e_iload 104 dX12_interest_102 rfl rfl ?_
                                                refine e_iconst 105 dX12_interest_104 rfl ?_
                                                refine e_icmp_ne 108 113 dX12_interest_105 (by omega) (by decide) (by decide) rfl (fun b105 => ?_) (fun b105 => ?_)
                                                · first
                                                   | (exfalso; omega)
                                                   | (skip
                                                      refine e_iload 115 dX12_interest_113 rfl rfl ?_
                                                      refine e_iret dX12_interest_115 ?_
                                                      first
                                                        | (exact ⟨by omega, hI⟩)
                                                        | (rw [hC.lrel.chg]
                                                           exact ⟨by omega, hI⟩)
                                                        | (rw [hC.lrelo.chg]
                                                           exact ⟨by omega, hI⟩)
                                                        | (exfalso
                                                           have q1 := hC.lrel.top
                                                           have q2 := hC.lrelo.top
                                                           have q3 := fTop_0 (M := M)
                                                           omega))
                                                · first
                                                   | (exfalso; omega)
                                                   | (skip
                                                      refine e_bipush 110 dX12_interest_108 (by decide) rfl ?_
                                                      refine e_goto 115 dX12_interest_110 (by decide) ?_
                                                      refine e_iret dX12_interest_115 ?_
                                                      first
                                                        | (exact ⟨by omega, hI⟩)
                                                        | (rw [hC.lrel.chg]
                                                           exact ⟨by omega, hI⟩)
                                                        | (rw [hC.lrelo.chg]
                                                           exact ⟨by omega, hI⟩)
                                                        | (exfalso
                                                           have q1 := hC.lrel.top
                                                           have q2 := hC.lrelo.top
                                                           have q3 := fTop_0 (M := M)
                                                           omega)))
                                          · dsimp only [jpush]
                                            have hr1 := rChg_rng (loan := loan) (hv := 1 + (to - fr) / 2) hC.rlaw (by omega) (by omega)
                                            have hr2 := rChg_rng (loan := loan) (hv := 1 + (to - fr) / 2) hC.rolaw (by omega) (by omega)
                                            first
                                             | (exfalso; omega)
                                             | (skip
                                                refine e_istore (lsn := [(5, _), (0, _), (1, _), (2, _), (3, _), (4, _)]) 102 dX12_interest_100 (by decide) rfl rfl ?_
                                                refine e_iload 104 dX12_interest_102 rfl rfl ?_
                                                refine e_iconst 105 dX12_interest_104 rfl ?_
                                                refine e_icmp_ne 108 113 dX12_interest_105 (by decide) (by decide) (by decide) rfl (fun h => absurd h (by decide)) (fun _ => ?_)
                                                refine e_bipush 110 dX12_interest_108 (by decide) rfl ?_
                                                refine e_goto 115 dX12_interest_110 (by decide) ?_
                                                refine e_iret dX12_interest_115 ?_
                                                first
                                                  | (exact ⟨by omega, hI⟩)
                                                  | (rw [hC.lrel.chg]
                                                     exact ⟨by omega, hI⟩)
                                                  | (rw [hC.lrelo.chg]
                                                     exact ⟨by omega, hI⟩)
                                                  | (exfalso
                                                     have q1 := hC.lrel.top
                                                     have q2 := hC.lrelo.top
                                                     have q3 := fTop_0 (M := M)
                                                     omega)))
                                    · first
                                       | (exfalso; omega)
                                       | (skip
                                          refine e_iconst 84 dX12_interest_83 rfl ?_
                                          refine e_goto 89 dX12_interest_84 (by decide) ?_
                                          refine e_iload_n (i := 2) 90 dX12_interest_89 rfl rfl rfl ?_
                                          refine e_iload 92 dX12_interest_90 rfl rfl ?_
                                          refine e_iload_n (i := 3) 93 dX12_interest_92 rfl rfl rfl ?_
                                          refine e_isub 94 dX12_interest_93 rfl ?_
                                          refine e_callS 97 mt_yX12_halvesOf ms_yX12_halvesOf wd_1484 (by decide) dX12_interest_94 rfl rfl (Nat.le_of_ble_eq_true rfl) (jroom (by decide)) rfl (m_halvesOf (by omega) ?_)
                                          dsimp only [jpush]
                                          refine e_callV 100 mt_yX12_interestBy mv_yX12_interestBy wd_1487 (by decide) dX12_interest_97 at_928 jc_12 rfl rfl rfl (Nat.le_of_ble_eq_true rfl) (jroom (by decide)) rfl (m_interestBy (by decide) (by omega) (by omega) hC.rlaw (fun w97 => ?_) (fun w97 => ?_))
                                          · dsimp only [jpush]
                                            have hr1 := rChg_rng (loan := loan) (hv := 1 + (to - fr) / 2) hC.rlaw (by omega) (by omega)
                                            have hr2 := rChg_rng (loan := loan) (hv := 1 + (to - fr) / 2) hC.rolaw (by omega) (by omega)
                                            first
                                             | (exfalso; omega)
                                             | (skip
                                                refine e_istore (lsn := [(5, _), (0, _), (1, _), (2, _), (3, _), (4, _)]) 102 dX12_interest_100 (by decide) rfl rfl ?_
                                                refine e_iload 104 dX12_interest_102 rfl rfl ?_
                                                refine e_iconst 105 dX12_interest_104 rfl ?_
                                                refine e_icmp_ne 108 113 dX12_interest_105 (by omega) (by decide) (by decide) rfl (fun b105 => ?_) (fun b105 => ?_)
                                                · first
                                                   | (exfalso; omega)
                                                   | (skip
                                                      refine e_iload 115 dX12_interest_113 rfl rfl ?_
                                                      refine e_iret dX12_interest_115 ?_
                                                      first
                                                        | (exact ⟨by omega, hI⟩)
                                                        | (rw [hC.lrel.chg]
                                                           exact ⟨by omega, hI⟩)
                                                        | (rw [hC.lrelo.chg]
                                                           exact ⟨by omega, hI⟩)
                                                        | (exfalso
                                                           have q1 := hC.lrel.top
                                                           have q2 := hC.lrelo.top
                                                           have q3 := fTop_0 (M := M)
                                                           omega))
                                                · first
                                                   | (exfalso; omega)
                                                   | (skip
                                                      refine e_bipush 110 dX12_interest_108 (by decide) rfl ?_
                                                      refine e_goto 115 dX12_interest_110 (by decide) ?_
                                                      refine e_iret dX12_interest_115 ?_
                                                      first
                                                        | (exact ⟨by omega, hI⟩)
                                                        | (rw [hC.lrel.chg]
                                                           exact ⟨by omega, hI⟩)
                                                        | (rw [hC.lrelo.chg]
                                                           exact ⟨by omega, hI⟩)
                                                        | (exfalso
                                                           have q1 := hC.lrel.top
                                                           have q2 := hC.lrelo.top
                                                           have q3 := fTop_0 (M := M)
                                                           omega)))
                                          · dsimp only [jpush]
                                            have hr1 := rChg_rng (loan := loan) (hv := 1 + (to - fr) / 2) hC.rlaw (by omega) (by omega)
                                            have hr2 := rChg_rng (loan := loan) (hv := 1 + (to - fr) / 2) hC.rolaw (by omega) (by omega)
                                            first
                                             | (exfalso; omega)
                                             | (skip
                                                refine e_istore (lsn := [(5, _), (0, _), (1, _), (2, _), (3, _), (4, _)]) 102 dX12_interest_100 (by decide) rfl rfl ?_
                                                refine e_iload 104 dX12_interest_102 rfl rfl ?_
                                                refine e_iconst 105 dX12_interest_104 rfl ?_
                                                refine e_icmp_ne 108 113 dX12_interest_105 (by decide) (by decide) (by decide) rfl (fun h => absurd h (by decide)) (fun _ => ?_)
                                                refine e_bipush 110 dX12_interest_108 (by decide) rfl ?_
                                                refine e_goto 115 dX12_interest_110 (by decide) ?_
                                                refine e_iret dX12_interest_115 ?_
                                                first
                                                  | (exact ⟨by omega, hI⟩)
                                                  | (rw [hC.lrel.chg]
                                                     exact ⟨by omega, hI⟩)
                                                  | (rw [hC.lrelo.chg]
                                                     exact ⟨by omega, hI⟩)
                                                  | (exfalso
                                                     have q1 := hC.lrel.top
                                                     have q2 := hC.lrelo.top
                                                     have q3 := fTop_0 (M := M)
                                                     omega))))
                              · first
                                 | (exfalso; omega)
                                 | (skip
                                    refine e_aload_n (i := 0) 65 dX12_interest_64 rfl rfl rfl ?_
                                    refine e_getr (j := 1) 68 fl_12_13 dX12_interest_65 at_928 rfl rfl tp_928_1 rfl ?_
                                    refine e_bipush 70 dX12_interest_68 (by decide) rfl ?_
                                    refine e_iald 71 dX12_interest_70 ar_929 (by decide) (by decide) rfl (fun r70 => ?_)
                                    refine e_if_ne 74 78 dX12_interest_71 (by omega) (by decide) rfl (fun b71 => ?_) (fun b71 => ?_)
                                    · first
                                       | (exfalso; omega)
                                       | (skip
                                          refine e_aload_n (i := 0) 79 dX12_interest_78 rfl rfl rfl ?_
                                          refine e_iload_n (i := 1) 80 dX12_interest_79 rfl rfl rfl ?_
                                          refine e_if_ne 83 87 dX12_interest_80 (by omega) (by decide) rfl (fun b80 => ?_) (fun b80 => ?_)
                                          · first
                                             | (exfalso; omega)
                                             | (skip
                                                refine e_bipush 89 dX12_interest_87 (by decide) rfl ?_
                                                refine e_iload_n (i := 2) 90 dX12_interest_89 rfl rfl rfl ?_
                                                refine e_iload 92 dX12_interest_90 rfl rfl ?_
                                                refine e_iload_n (i := 3) 93 dX12_interest_92 rfl rfl rfl ?_
                                                refine e_isub 94 dX12_interest_93 rfl ?_
                                                refine e_callS 97 mt_yX12_halvesOf ms_yX12_halvesOf wd_1484 (by decide) dX12_interest_94 rfl rfl (Nat.le_of_ble_eq_true rfl) (jroom (by decide)) rfl (m_halvesOf (by omega) ?_)
                                                dsimp only [jpush]
                                                refine e_callV 100 mt_yX12_interestBy mv_yX12_interestBy wd_1487 (by decide) dX12_interest_97 at_928 jc_12 rfl rfl rfl (Nat.le_of_ble_eq_true rfl) (jroom (by decide)) rfl (m_interestBy (by decide) (by omega) (by omega) hC.rolaw (fun w97 => ?_) (fun w97 => ?_))
                                                · dsimp only [jpush]
                                                  have hr1 := rChg_rng (loan := loan) (hv := 1 + (to - fr) / 2) hC.rlaw (by omega) (by omega)
                                                  have hr2 := rChg_rng (loan := loan) (hv := 1 + (to - fr) / 2) hC.rolaw (by omega) (by omega)
                                                  first
                                                   | (exfalso; omega)
                                                   | (skip
                                                      refine e_istore (lsn := [(5, _), (0, _), (1, _), (2, _), (3, _), (4, _)]) 102 dX12_interest_100 (by decide) rfl rfl ?_
                                                      refine e_iload 104 dX12_interest_102 rfl rfl ?_
                                                      refine e_iconst 105 dX12_interest_104 rfl ?_
                                                      refine e_icmp_ne 108 113 dX12_interest_105 (by omega) (by decide) (by decide) rfl (fun b105 => ?_) (fun b105 => ?_)
                                                      · first
                                                         | (exfalso; omega)
                                                         | (skip
                                                            refine e_iload 115 dX12_interest_113 rfl rfl ?_
                                                            refine e_iret dX12_interest_115 ?_
                                                            first
                                                              | (exact ⟨by omega, hI⟩)
                                                              | (rw [hC.lrel.chg]
                                                                 exact ⟨by omega, hI⟩)
                                                              | (rw [hC.lrelo.chg]
                                                                 exact ⟨by omega, hI⟩)
                                                              | (exfalso
                                                                 have q1 := hC.lrel.top
                                                                 have q2 := hC.lrelo.top
                                                                 have q3 := fTop_0 (M := M)
                                                                 omega))
                                                      · first
                                                         | (exfalso; omega)
                                                         | (skip
                                                            refine e_bipush 110 dX12_interest_108 (by decide) rfl ?_
                                                            refine e_goto 115 dX12_interest_110 (by decide) ?_
                                                            refine e_iret dX12_interest_115 ?_
                                                            first
                                                              | (exact ⟨by omega, hI⟩)
                                                              | (rw [hC.lrel.chg]
                                                                 exact ⟨by omega, hI⟩)
                                                              | (rw [hC.lrelo.chg]
                                                                 exact ⟨by omega, hI⟩)
                                                              | (exfalso
                                                                 have q1 := hC.lrel.top
                                                                 have q2 := hC.lrelo.top
                                                                 have q3 := fTop_0 (M := M)
                                                                 omega)))
                                                · dsimp only [jpush]
                                                  have hr1 := rChg_rng (loan := loan) (hv := 1 + (to - fr) / 2) hC.rlaw (by omega) (by omega)
                                                  have hr2 := rChg_rng (loan := loan) (hv := 1 + (to - fr) / 2) hC.rolaw (by omega) (by omega)
                                                  first
                                                   | (exfalso; omega)
                                                   | (skip
                                                      refine e_istore (lsn := [(5, _), (0, _), (1, _), (2, _), (3, _), (4, _)]) 102 dX12_interest_100 (by decide) rfl rfl ?_
                                                      refine e_iload 104 dX12_interest_102 rfl rfl ?_
                                                      refine e_iconst 105 dX12_interest_104 rfl ?_
                                                      refine e_icmp_ne 108 113 dX12_interest_105 (by decide) (by decide) (by decide) rfl (fun h => absurd h (by decide)) (fun _ => ?_)
                                                      refine e_bipush 110 dX12_interest_108 (by decide) rfl ?_
                                                      refine e_goto 115 dX12_interest_110 (by decide) ?_
                                                      refine e_iret dX12_interest_115 ?_
                                                      first
                                                        | (exact ⟨by omega, hI⟩)
                                                        | (rw [hC.lrel.chg]
                                                           exact ⟨by omega, hI⟩)
                                                        | (rw [hC.lrelo.chg]
                                                           exact ⟨by omega, hI⟩)
                                                        | (exfalso
                                                           have q1 := hC.lrel.top
                                                           have q2 := hC.lrelo.top
                                                           have q3 := fTop_0 (M := M)
                                                           omega)))
                                          · first
                                             | (exfalso; omega)
                                             | (skip
                                                refine e_iconst 84 dX12_interest_83 rfl ?_
                                                refine e_goto 89 dX12_interest_84 (by decide) ?_
                                                refine e_iload_n (i := 2) 90 dX12_interest_89 rfl rfl rfl ?_
                                                refine e_iload 92 dX12_interest_90 rfl rfl ?_
                                                refine e_iload_n (i := 3) 93 dX12_interest_92 rfl rfl rfl ?_
                                                refine e_isub 94 dX12_interest_93 rfl ?_
                                                refine e_callS 97 mt_yX12_halvesOf ms_yX12_halvesOf wd_1484 (by decide) dX12_interest_94 rfl rfl (Nat.le_of_ble_eq_true rfl) (jroom (by decide)) rfl (m_halvesOf (by omega) ?_)
                                                dsimp only [jpush]
                                                refine e_callV 100 mt_yX12_interestBy mv_yX12_interestBy wd_1487 (by decide) dX12_interest_97 at_928 jc_12 rfl rfl rfl (Nat.le_of_ble_eq_true rfl) (jroom (by decide)) rfl (m_interestBy (by decide) (by omega) (by omega) hC.rlaw (fun w97 => ?_) (fun w97 => ?_))
                                                · dsimp only [jpush]
                                                  have hr1 := rChg_rng (loan := loan) (hv := 1 + (to - fr) / 2) hC.rlaw (by omega) (by omega)
                                                  have hr2 := rChg_rng (loan := loan) (hv := 1 + (to - fr) / 2) hC.rolaw (by omega) (by omega)
                                                  first
                                                   | (exfalso; omega)
                                                   | (skip
                                                      refine e_istore (lsn := [(5, _), (0, _), (1, _), (2, _), (3, _), (4, _)]) 102 dX12_interest_100 (by decide) rfl rfl ?_
                                                      refine e_iload 104 dX12_interest_102 rfl rfl ?_
                                                      refine e_iconst 105 dX12_interest_104 rfl ?_
                                                      refine e_icmp_ne 108 113 dX12_interest_105 (by omega) (by decide) (by decide) rfl (fun b105 => ?_) (fun b105 => ?_)
                                                      · first
                                                         | (exfalso; omega)
                                                         | (skip
                                                            refine e_iload 115 dX12_interest_113 rfl rfl ?_
                                                            refine e_iret dX12_interest_115 ?_
                                                            first
                                                              | (exact ⟨by omega, hI⟩)
                                                              | (rw [hC.lrel.chg]
                                                                 exact ⟨by omega, hI⟩)
                                                              | (rw [hC.lrelo.chg]
                                                                 exact ⟨by omega, hI⟩)
                                                              | (exfalso
                                                                 have q1 := hC.lrel.top
                                                                 have q2 := hC.lrelo.top
                                                                 have q3 := fTop_0 (M := M)
                                                                 omega))
                                                      · first
                                                         | (exfalso; omega)
                                                         | (skip
                                                            refine e_bipush 110 dX12_interest_108 (by decide) rfl ?_
                                                            refine e_goto 115 dX12_interest_110 (by decide) ?_
                                                            refine e_iret dX12_interest_115 ?_
                                                            first
                                                              | (exact ⟨by omega, hI⟩)
                                                              | (rw [hC.lrel.chg]
                                                                 exact ⟨by omega, hI⟩)
                                                              | (rw [hC.lrelo.chg]
                                                                 exact ⟨by omega, hI⟩)
                                                              | (exfalso
                                                                 have q1 := hC.lrel.top
                                                                 have q2 := hC.lrelo.top
                                                                 have q3 := fTop_0 (M := M)
                                                                 omega)))
                                                · dsimp only [jpush]
                                                  have hr1 := rChg_rng (loan := loan) (hv := 1 + (to - fr) / 2) hC.rlaw (by omega) (by omega)
                                                  have hr2 := rChg_rng (loan := loan) (hv := 1 + (to - fr) / 2) hC.rolaw (by omega) (by omega)
                                                  first
                                                   | (exfalso; omega)
                                                   | (skip
                                                      refine e_istore (lsn := [(5, _), (0, _), (1, _), (2, _), (3, _), (4, _)]) 102 dX12_interest_100 (by decide) rfl rfl ?_
                                                      refine e_iload 104 dX12_interest_102 rfl rfl ?_
                                                      refine e_iconst 105 dX12_interest_104 rfl ?_
                                                      refine e_icmp_ne 108 113 dX12_interest_105 (by decide) (by decide) (by decide) rfl (fun h => absurd h (by decide)) (fun _ => ?_)
                                                      refine e_bipush 110 dX12_interest_108 (by decide) rfl ?_
                                                      refine e_goto 115 dX12_interest_110 (by decide) ?_
                                                      refine e_iret dX12_interest_115 ?_
                                                      first
                                                        | (exact ⟨by omega, hI⟩)
                                                        | (rw [hC.lrel.chg]
                                                           exact ⟨by omega, hI⟩)
                                                        | (rw [hC.lrelo.chg]
                                                           exact ⟨by omega, hI⟩)
                                                        | (exfalso
                                                           have q1 := hC.lrel.top
                                                           have q2 := hC.lrelo.top
                                                           have q3 := fTop_0 (M := M)
                                                           omega))))
                                    · first
                                       | (exfalso; omega)
                                       | (skip
                                          refine e_iconst 75 dX12_interest_74 rfl ?_
                                          refine e_goto 100 dX12_interest_75 (by decide) ?_
                                          refine e_istore (lsn := [(5, _), (0, _), (1, _), (2, _), (3, _), (4, _)]) 102 dX12_interest_100 (by decide) rfl rfl ?_
                                          refine e_iload 104 dX12_interest_102 rfl rfl ?_
                                          refine e_iconst 105 dX12_interest_104 rfl ?_
                                          refine e_icmp_ne 108 113 dX12_interest_105 (by decide) (by decide) (by decide) rfl (fun h => absurd h (by decide)) (fun _ => ?_)
                                          refine e_bipush 110 dX12_interest_108 (by decide) rfl ?_
                                          refine e_goto 115 dX12_interest_110 (by decide) ?_
                                          refine e_iret dX12_interest_115 ?_
                                          first
                                            | (exact ⟨by omega, hI⟩)
                                            | (rw [hC.lrel.chg]
                                               exact ⟨by omega, hI⟩)
                                            | (rw [hC.lrelo.chg]
                                               exact ⟨by omega, hI⟩)
                                            | (exfalso
                                               have q1 := hC.lrel.top
                                               have q2 := hC.lrelo.top
                                               have q3 := fTop_0 (M := M)
                                               omega))))
                        · dsimp only [jpush]
                          first
                           | (exfalso; omega)
                           | (skip
                              refine e_if_ne 56 59 dX12_interest_53 (by decide) (by decide) rfl (fun h => absurd h (by decide)) (fun _ => ?_)
                              refine e_bipush 58 dX12_interest_56 (by decide) rfl ?_
                              refine e_iret dX12_interest_58 ?_
                              first
                                | (exact ⟨by omega, hI⟩)
                                | (rw [hC.lrel.chg]
                                   exact ⟨by omega, hI⟩)
                                | (rw [hC.lrelo.chg]
                                   exact ⟨by omega, hI⟩)
                                | (exfalso
                                   have q1 := hC.lrel.top
                                   have q2 := hC.lrelo.top
                                   have q3 := fTop_0 (M := M)
                                   omega)))
                  · dsimp only [jpush]
                    first
                     | (exfalso; omega)
                     | (skip
                        refine e_if_eq 42 56 dX12_interest_39 (by decide) (by decide) rfl (fun _ => ?_) (fun h => absurd h (by decide))
                        refine e_bipush 58 dX12_interest_56 (by decide) rfl ?_
                        refine e_iret dX12_interest_58 ?_
                        first
                          | (exact ⟨by omega, hI⟩)
                          | (rw [hC.lrel.chg]
                             exact ⟨by omega, hI⟩)
                          | (rw [hC.lrelo.chg]
                             exact ⟨by omega, hI⟩)
                          | (exfalso
                             have q1 := hC.lrel.top
                             have q2 := hC.lrelo.top
                             have q3 := fTop_0 (M := M)
                             omega)))
            · dsimp only [jpush]
              first
               | (exfalso; omega)
               | (skip
                  refine e_if_eq 30 56 dX12_interest_27 (by decide) (by decide) rfl (fun _ => ?_) (fun h => absurd h (by decide))
                  refine e_bipush 58 dX12_interest_56 (by decide) rfl ?_
                  refine e_iret dX12_interest_58 ?_
                  first
                    | (exact ⟨by omega, hI⟩)
                    | (rw [hC.lrel.chg]
                       exact ⟨by omega, hI⟩)
                    | (rw [hC.lrelo.chg]
                       exact ⟨by omega, hI⟩)
                    | (exfalso
                       have q1 := hC.lrel.top
                       have q2 := hC.lrelo.top
                       have q3 := fTop_0 (M := M)
                       omega)))
      · dsimp only [jpush]
        first
         | (exfalso; omega)
         | (skip
            refine e_if_ne 15 18 dX12_interest_12 (by decide) (by decide) rfl (fun h => absurd h (by decide)) (fun _ => ?_)
            refine e_bipush 17 dX12_interest_15 (by decide) rfl ?_
            refine e_iret dX12_interest_17 ?_
            first
              | (exact ⟨by omega, hI⟩)
              | (rw [hC.lrel.chg]
                 exact ⟨by omega, hI⟩)
              | (rw [hC.lrelo.chg]
                 exact ⟨by omega, hI⟩)
              | (exfalso
                 have q1 := hC.lrel.top
                 have q2 := hC.lrelo.top
                 have q3 := fTop_0 (M := M)
                 omega))

