/-! PAIRS: tickets, pledges, told -/
theorem p_held {M : jM} (hI : Inv M) {number : Int} (hnumber : -2147483648 ≤ number ∧ number ≤ 2147483647) {what : Int} (hwhat : -2147483648 ≤ what ∧ what ≤ 2147483647) : jCt yX11_held cX11_held 5 (some .int) 5 [jR 0, jI number, jI what] M (fun z M1 => jCt yX12_held cX12_held 4 (some .int) 4 [jR 928, jI number, jI what] M1 (fun z2 M2 => z = z2 ∧ Inv M2)) := by
  have hC := hI.cr
  have hn := hC.cnt
  have hg := hC.rng
  refine jCt_of mt_yX11_held (Nat.le_of_ble_eq_true rfl) (fun X => ?_)
  refine e_aload_n (i := 0) 1 dX11_held_0 rfl rfl rfl ?_
  refine e_getr (j := 0) 4 fl_11_10 dX11_held_1 at_0 rfl rfl tp_0_0 rfl ?_
  refine e_iload_n (i := 1) 5 dX11_held_4 rfl rfl rfl ?_
  refine e_callV 8 mt_yX8_living mv_yX8_living wd_812 (by decide) dX11_held_5 at_1 jc_8 rfl rfl rfl (Nat.le_of_ble_eq_true rfl) (jroom (by decide)) rfl (c_living (by omega) hC (fun w5 => ?_) (fun w5 => ?_))
  · dsimp only [jpush]
    refine e_istore_n (i := 3) (lsn := [(3, _), (0, _), (1, _), (2, _)]) 9 dX11_held_8 rfl (by decide) rfl rfl ?_
    refine e_iload_n (i := 3) 10 dX11_held_9 rfl rfl rfl ?_
    refine e_iconst 11 dX11_held_10 rfl ?_
    refine e_icmp_ne 14 17 dX11_held_11 (by omega) (by decide) (by decide) rfl (fun b11 => ?_) (fun b11 => ?_)
    · skip
      have ht := hC.tk (t := number / 100 - 1) (by omega) (by omega)
      refine e_aload_n (i := 0) 18 dX11_held_17 rfl rfl rfl ?_
      refine e_getr (j := 0) 21 fl_11_10 dX11_held_18 at_0 rfl rfl tp_0_0 rfl ?_
      refine e_getr (j := 11) 24 fl_11_188 dX11_held_21 at_1 rfl rfl tp_1_11 rfl ?_
      refine e_iload_n (i := 3) 25 dX11_held_24 rfl rfl rfl ?_
      refine e_aald 26 dX11_held_25 ar_19 (by decide) (by omega) (by omega) (tp_ticket (by omega) (by omega)) rfl ?_
      refine e_astore (lsn := [(4, _), (3, _), (0, _), (1, _), (2, _)]) 28 dX11_held_26 (by decide) rfl rfl ?_
      refine e_iload_n (i := 2) 29 dX11_held_28 rfl rfl rfl ?_
      refine e_tsw 89 dX11_held_29 (by omega) (by decide) (fun c0 hc0 hz0 => ?_) (fun b29 => ?_)
      · have hcc : c0 = 0 ∨ c0 = 1 ∨ c0 = 2 := by omega
        rcases hcc with b29 | b29 | b29
        · subst b29
          refine ⟨_, 56, rfl, by decide, ?_⟩
          refine e_aload 58 dX11_held_56 rfl rfl ?_
          refine e_geti (j := 0) 61 fl_11_192 dX11_held_58 (at_ticket (by omega) (by omega)) (by decide) rfl rfl (fun r58 => ?_)
          refine e_iret dX11_held_61 ?_
          refine jCt_of mt_yX12_held (Nat.le_of_ble_eq_true rfl) (fun X2 => ?_)
          refine e_aload_n (i := 0) 1 dX12_held_0 rfl rfl rfl ?_
          refine e_iconst 2 dX12_held_1 rfl ?_
          refine e_put0 (j := 0) 5 fl_12_1 dX12_held_2 at_928 rfl rfl rfl (by decide) hI.1 rfl ?_
          refine e_iload_n (i := 2) 6 dX12_held_5 rfl rfl rfl ?_
          refine e_i2l 7 dX12_held_6 (by omega) rfl ?_
          refine e_lconst0 8 dX12_held_7 rfl ?_
          refine e_ldc2 (z := (2)) 11 (ix := 243) wd_1546 (by decide) dX12_held_8 rfl ?_
          refine e_callS 14 mt_yX12_within ms_yX12_within wd_1390 (by decide) dX12_held_11 rfl rfl (Nat.le_of_ble_eq_true rfl) (jroom (by decide)) rfl (m_within (by omega) (by omega) (by omega) (fun w11 => ?_) (fun w11 => ?_))
          · dsimp only [jpush]
            refine e_if_eq 17 25 dX12_held_14 (by decide) (by decide) rfl (fun h => absurd h (by decide)) (fun _ => ?_)
            refine e_aload_n (i := 0) 18 dX12_held_17 rfl rfl rfl ?_
            refine e_iload_n (i := 1) 19 dX12_held_18 rfl rfl rfl ?_
            refine e_callV 22 mt_yX12_stateOf mv_yX12_stateOf wd_1535 (by decide) dX12_held_19 at_928 jc_12 rfl rfl rfl (Nat.le_of_ble_eq_true rfl) (jroom (by decide)) rfl (m_stateOf (by omega) hg.2.2.2.1 (fun t a b => (hC.tk a b).2.2.2.1) (fun w19 => ?_) (fun w19 => ?_) (fun w19 => ?_) (fun w19 => ?_))
            · (exfalso; (try simp only [tkBad, tkGood] at *); omega)
            · (exfalso; (try simp only [tkBad, tkGood] at *); omega)
            · (exfalso; (try simp only [tkBad, tkGood] at *); omega)
            · dsimp only [jpush]
              refine e_if_eq 25 28 dX12_held_22 (by decide) (by decide) rfl (fun _ => ?_) (fun h => absurd h (by decide))
              have hg2 := w19.1
              unfold tkGood at hg2
              have ed : number.tdiv 100 = number / 100 := Int.tdiv_eq_ediv_of_nonneg (by omega)
              refine e_iload_n (i := 1) 29 dX12_held_28 rfl rfl rfl ?_
              refine e_bipush 31 dX12_held_29 (by decide) rfl ?_
              refine e_idiv 32 dX12_held_31 (by omega) (by decide) (by decide) rfl ?_
              rw [ed]
              refine e_iconst 33 dX12_held_32 rfl ?_
              refine e_isub 34 dX12_held_33 rfl ?_
              refine e_istore_n (i := 3) (lsn := [(3, _), (0, _), (1, _), (2, _)]) 35 dX12_held_34 rfl (by decide) rfl rfl ?_
              refine e_iload_n (i := 2) 36 dX12_held_35 rfl rfl rfl ?_
              refine e_if_ne 39 52 dX12_held_36 (by omega) (by decide) rfl (fun b36 => ?_) (fun b36 => ?_)
              · skip
                refine e_iload_n (i := 2) 53 dX12_held_52 rfl rfl rfl ?_
                refine e_iconst 54 dX12_held_53 rfl ?_
                refine e_icmp_ne 57 70 dX12_held_54 (by omega) (by decide) (by decide) rfl (fun b54 => ?_) (fun b54 => ?_)
                · skip
                  refine e_aload_n (i := 0) 71 dX12_held_70 rfl rfl rfl ?_
                  refine e_aload_n (i := 0) 72 dX12_held_71 rfl rfl rfl ?_
                  refine e_getr (j := 1) 75 fl_12_13 dX12_held_72 at_928 rfl rfl tp_928_1 rfl ?_
                  refine e_sipush 78 dX12_held_75 (by decide) rfl ?_
                  refine e_iload_n (i := 3) 79 dX12_held_78 rfl rfl rfl ?_
                  refine e_iadd 80 dX12_held_79 rfl ?_
                  refine e_iald 81 dX12_held_80 ar_929 (by omega) (by omega) rfl (fun r80 => ?_)
                  refine e_callV 84 mt_yX12_dueOf mv_yX12_dueOf wd_1547 (by decide) dX12_held_81 at_928 jc_12 rfl rfl rfl (Nat.le_of_ble_eq_true rfl) (jroom (by decide)) rfl (m_dueOf (hC.1.okP (by omega) (by omega)) ?_)
                  dsimp only [jpush]
                  refine e_iret dX12_held_84 ?_
                  first
                    | (exact ⟨by omega, hI⟩)
                    | (exfalso; (try simp only [tkBad, tkGood] at *); omega)
                · skip
                  refine e_aload_n (i := 0) 58 dX12_held_57 rfl rfl rfl ?_
                  refine e_getr (j := 1) 61 fl_12_13 dX12_held_58 at_928 rfl rfl tp_928_1 rfl ?_
                  refine e_sipush 64 dX12_held_61 (by decide) rfl ?_
                  refine e_iload_n (i := 3) 65 dX12_held_64 rfl rfl rfl ?_
                  refine e_iadd 66 dX12_held_65 rfl ?_
                  refine e_iald 67 dX12_held_66 ar_929 (by omega) (by omega) rfl (fun r66 => ?_)
                  refine e_goto 84 dX12_held_67 (by decide) ?_
                  refine e_iret dX12_held_84 ?_
                  first
                    | (exact ⟨by omega, hI⟩)
                    | (exfalso; (try simp only [tkBad, tkGood] at *); omega)
              · skip
                refine e_aload_n (i := 0) 40 dX12_held_39 rfl rfl rfl ?_
                refine e_getr (j := 1) 43 fl_12_13 dX12_held_40 at_928 rfl rfl tp_928_1 rfl ?_
                refine e_sipush 46 dX12_held_43 (by decide) rfl ?_
                refine e_iload_n (i := 3) 47 dX12_held_46 rfl rfl rfl ?_
                refine e_iadd 48 dX12_held_47 rfl ?_
                refine e_iald 49 dX12_held_48 ar_929 (by omega) (by omega) rfl (fun r48 => ?_)
                refine e_goto 84 dX12_held_49 (by decide) ?_
                refine e_iret dX12_held_84 ?_
                first
                  | (exact ⟨by omega, hI⟩)
                  | (exfalso; (try simp only [tkBad, tkGood] at *); omega)
          · dsimp only [jpush]
            refine e_if_eq 17 25 dX12_held_14 (by decide) (by decide) rfl (fun _ => ?_) (fun h => absurd h (by decide))
            refine e_bipush 27 dX12_held_25 (by decide) rfl ?_
            refine e_iret dX12_held_27 ?_
            first
              | (exact ⟨by omega, hI⟩)
              | (exfalso; (try simp only [tkBad, tkGood] at *); omega)
        · subst b29
          refine ⟨_, 62, rfl, by decide, ?_⟩
          refine e_aload 64 dX11_held_62 rfl rfl ?_
          refine e_geti (j := 1) 67 fl_11_197 dX11_held_64 (at_ticket (by omega) (by omega)) (by decide) rfl rfl (fun r64 => ?_)
          refine e_iret dX11_held_67 ?_
          refine jCt_of mt_yX12_held (Nat.le_of_ble_eq_true rfl) (fun X2 => ?_)
          refine e_aload_n (i := 0) 1 dX12_held_0 rfl rfl rfl ?_
          refine e_iconst 2 dX12_held_1 rfl ?_
          refine e_put0 (j := 0) 5 fl_12_1 dX12_held_2 at_928 rfl rfl rfl (by decide) hI.1 rfl ?_
          refine e_iload_n (i := 2) 6 dX12_held_5 rfl rfl rfl ?_
          refine e_i2l 7 dX12_held_6 (by omega) rfl ?_
          refine e_lconst0 8 dX12_held_7 rfl ?_
          refine e_ldc2 (z := (2)) 11 (ix := 243) wd_1546 (by decide) dX12_held_8 rfl ?_
          refine e_callS 14 mt_yX12_within ms_yX12_within wd_1390 (by decide) dX12_held_11 rfl rfl (Nat.le_of_ble_eq_true rfl) (jroom (by decide)) rfl (m_within (by omega) (by omega) (by omega) (fun w11 => ?_) (fun w11 => ?_))
          · dsimp only [jpush]
            refine e_if_eq 17 25 dX12_held_14 (by decide) (by decide) rfl (fun h => absurd h (by decide)) (fun _ => ?_)
            refine e_aload_n (i := 0) 18 dX12_held_17 rfl rfl rfl ?_
            refine e_iload_n (i := 1) 19 dX12_held_18 rfl rfl rfl ?_
            refine e_callV 22 mt_yX12_stateOf mv_yX12_stateOf wd_1535 (by decide) dX12_held_19 at_928 jc_12 rfl rfl rfl (Nat.le_of_ble_eq_true rfl) (jroom (by decide)) rfl (m_stateOf (by omega) hg.2.2.2.1 (fun t a b => (hC.tk a b).2.2.2.1) (fun w19 => ?_) (fun w19 => ?_) (fun w19 => ?_) (fun w19 => ?_))
            · (exfalso; (try simp only [tkBad, tkGood] at *); omega)
            · (exfalso; (try simp only [tkBad, tkGood] at *); omega)
            · (exfalso; (try simp only [tkBad, tkGood] at *); omega)
            · dsimp only [jpush]
              refine e_if_eq 25 28 dX12_held_22 (by decide) (by decide) rfl (fun _ => ?_) (fun h => absurd h (by decide))
              have hg2 := w19.1
              unfold tkGood at hg2
              have ed : number.tdiv 100 = number / 100 := Int.tdiv_eq_ediv_of_nonneg (by omega)
              refine e_iload_n (i := 1) 29 dX12_held_28 rfl rfl rfl ?_
              refine e_bipush 31 dX12_held_29 (by decide) rfl ?_
              refine e_idiv 32 dX12_held_31 (by omega) (by decide) (by decide) rfl ?_
              rw [ed]
              refine e_iconst 33 dX12_held_32 rfl ?_
              refine e_isub 34 dX12_held_33 rfl ?_
              refine e_istore_n (i := 3) (lsn := [(3, _), (0, _), (1, _), (2, _)]) 35 dX12_held_34 rfl (by decide) rfl rfl ?_
              refine e_iload_n (i := 2) 36 dX12_held_35 rfl rfl rfl ?_
              refine e_if_ne 39 52 dX12_held_36 (by omega) (by decide) rfl (fun b36 => ?_) (fun b36 => ?_)
              · skip
                refine e_iload_n (i := 2) 53 dX12_held_52 rfl rfl rfl ?_
                refine e_iconst 54 dX12_held_53 rfl ?_
                refine e_icmp_ne 57 70 dX12_held_54 (by omega) (by decide) (by decide) rfl (fun b54 => ?_) (fun b54 => ?_)
                · skip
                  refine e_aload_n (i := 0) 71 dX12_held_70 rfl rfl rfl ?_
                  refine e_aload_n (i := 0) 72 dX12_held_71 rfl rfl rfl ?_
                  refine e_getr (j := 1) 75 fl_12_13 dX12_held_72 at_928 rfl rfl tp_928_1 rfl ?_
                  refine e_sipush 78 dX12_held_75 (by decide) rfl ?_
                  refine e_iload_n (i := 3) 79 dX12_held_78 rfl rfl rfl ?_
                  refine e_iadd 80 dX12_held_79 rfl ?_
                  refine e_iald 81 dX12_held_80 ar_929 (by omega) (by omega) rfl (fun r80 => ?_)
                  refine e_callV 84 mt_yX12_dueOf mv_yX12_dueOf wd_1547 (by decide) dX12_held_81 at_928 jc_12 rfl rfl rfl (Nat.le_of_ble_eq_true rfl) (jroom (by decide)) rfl (m_dueOf (hC.1.okP (by omega) (by omega)) ?_)
                  dsimp only [jpush]
                  refine e_iret dX12_held_84 ?_
                  first
                    | (exact ⟨by omega, hI⟩)
                    | (exfalso; (try simp only [tkBad, tkGood] at *); omega)
                · skip
                  refine e_aload_n (i := 0) 58 dX12_held_57 rfl rfl rfl ?_
                  refine e_getr (j := 1) 61 fl_12_13 dX12_held_58 at_928 rfl rfl tp_928_1 rfl ?_
                  refine e_sipush 64 dX12_held_61 (by decide) rfl ?_
                  refine e_iload_n (i := 3) 65 dX12_held_64 rfl rfl rfl ?_
                  refine e_iadd 66 dX12_held_65 rfl ?_
                  refine e_iald 67 dX12_held_66 ar_929 (by omega) (by omega) rfl (fun r66 => ?_)
                  refine e_goto 84 dX12_held_67 (by decide) ?_
                  refine e_iret dX12_held_84 ?_
                  first
                    | (exact ⟨by omega, hI⟩)
                    | (exfalso; (try simp only [tkBad, tkGood] at *); omega)
              · skip
                refine e_aload_n (i := 0) 40 dX12_held_39 rfl rfl rfl ?_
                refine e_getr (j := 1) 43 fl_12_13 dX12_held_40 at_928 rfl rfl tp_928_1 rfl ?_
                refine e_sipush 46 dX12_held_43 (by decide) rfl ?_
                refine e_iload_n (i := 3) 47 dX12_held_46 rfl rfl rfl ?_
                refine e_iadd 48 dX12_held_47 rfl ?_
                refine e_iald 49 dX12_held_48 ar_929 (by omega) (by omega) rfl (fun r48 => ?_)
                refine e_goto 84 dX12_held_49 (by decide) ?_
                refine e_iret dX12_held_84 ?_
                first
                  | (exact ⟨by omega, hI⟩)
                  | (exfalso; (try simp only [tkBad, tkGood] at *); omega)
          · dsimp only [jpush]
            refine e_if_eq 17 25 dX12_held_14 (by decide) (by decide) rfl (fun _ => ?_) (fun h => absurd h (by decide))
            refine e_bipush 27 dX12_held_25 (by decide) rfl ?_
            refine e_iret dX12_held_27 ?_
            first
              | (exact ⟨by omega, hI⟩)
              | (exfalso; (try simp only [tkBad, tkGood] at *); omega)
        · subst b29
          refine ⟨_, 68, rfl, by decide, ?_⟩
          refine e_aload_n (i := 0) 69 dX11_held_68 rfl rfl rfl ?_
          refine e_getr (j := 0) 72 fl_11_10 dX11_held_69 at_0 rfl rfl tp_0_0 rfl ?_
          refine e_aload_n (i := 0) 73 dX11_held_72 rfl rfl rfl ?_
          refine e_getr (j := 0) 76 fl_11_10 dX11_held_73 at_0 rfl rfl tp_0_0 rfl ?_
          refine e_getr (j := 9) 79 fl_11_200 dX11_held_76 at_1 rfl rfl tp_1_9 rfl ?_
          refine e_aload 81 dX11_held_79 rfl rfl ?_
          refine e_geti (j := 0) 84 fl_11_192 dX11_held_81 (at_ticket (by omega) (by omega)) (by decide) rfl rfl (fun r81 => ?_)
          refine e_aald 85 dX11_held_84 ar_18 (by decide) (by omega) (by omega) (tp_pledge (by omega) (by omega)) rfl ?_
          refine e_callV 88 mt_yX8_due mv_yX8_due wd_817 (by decide) dX11_held_85 at_1 jc_8 rfl rfl rfl (Nat.le_of_ble_eq_true rfl) (jroom (by decide)) rfl (c_due (hC.pOk (by omega) (by omega)) ?_)
          dsimp only [jpush]
          refine e_iret dX11_held_88 ?_
          refine jCt_of mt_yX12_held (Nat.le_of_ble_eq_true rfl) (fun X2 => ?_)
          refine e_aload_n (i := 0) 1 dX12_held_0 rfl rfl rfl ?_
          refine e_iconst 2 dX12_held_1 rfl ?_
          refine e_put0 (j := 0) 5 fl_12_1 dX12_held_2 at_928 rfl rfl rfl (by decide) hI.1 rfl ?_
          refine e_iload_n (i := 2) 6 dX12_held_5 rfl rfl rfl ?_
          refine e_i2l 7 dX12_held_6 (by omega) rfl ?_
          refine e_lconst0 8 dX12_held_7 rfl ?_
          refine e_ldc2 (z := (2)) 11 (ix := 243) wd_1546 (by decide) dX12_held_8 rfl ?_
          refine e_callS 14 mt_yX12_within ms_yX12_within wd_1390 (by decide) dX12_held_11 rfl rfl (Nat.le_of_ble_eq_true rfl) (jroom (by decide)) rfl (m_within (by omega) (by omega) (by omega) (fun w11 => ?_) (fun w11 => ?_))
          · dsimp only [jpush]
            refine e_if_eq 17 25 dX12_held_14 (by decide) (by decide) rfl (fun h => absurd h (by decide)) (fun _ => ?_)
            refine e_aload_n (i := 0) 18 dX12_held_17 rfl rfl rfl ?_
            refine e_iload_n (i := 1) 19 dX12_held_18 rfl rfl rfl ?_
            refine e_callV 22 mt_yX12_stateOf mv_yX12_stateOf wd_1535 (by decide) dX12_held_19 at_928 jc_12 rfl rfl rfl (Nat.le_of_ble_eq_true rfl) (jroom (by decide)) rfl (m_stateOf (by omega) hg.2.2.2.1 (fun t a b => (hC.tk a b).2.2.2.1) (fun w19 => ?_) (fun w19 => ?_) (fun w19 => ?_) (fun w19 => ?_))
            · (exfalso; (try simp only [tkBad, tkGood] at *); omega)
            · (exfalso; (try simp only [tkBad, tkGood] at *); omega)
            · (exfalso; (try simp only [tkBad, tkGood] at *); omega)
            · dsimp only [jpush]
              refine e_if_eq 25 28 dX12_held_22 (by decide) (by decide) rfl (fun _ => ?_) (fun h => absurd h (by decide))
              have hg2 := w19.1
              unfold tkGood at hg2
              have ed : number.tdiv 100 = number / 100 := Int.tdiv_eq_ediv_of_nonneg (by omega)
              refine e_iload_n (i := 1) 29 dX12_held_28 rfl rfl rfl ?_
              refine e_bipush 31 dX12_held_29 (by decide) rfl ?_
              refine e_idiv 32 dX12_held_31 (by omega) (by decide) (by decide) rfl ?_
              rw [ed]
              refine e_iconst 33 dX12_held_32 rfl ?_
              refine e_isub 34 dX12_held_33 rfl ?_
              refine e_istore_n (i := 3) (lsn := [(3, _), (0, _), (1, _), (2, _)]) 35 dX12_held_34 rfl (by decide) rfl rfl ?_
              refine e_iload_n (i := 2) 36 dX12_held_35 rfl rfl rfl ?_
              refine e_if_ne 39 52 dX12_held_36 (by omega) (by decide) rfl (fun b36 => ?_) (fun b36 => ?_)
              · skip
                refine e_iload_n (i := 2) 53 dX12_held_52 rfl rfl rfl ?_
                refine e_iconst 54 dX12_held_53 rfl ?_
                refine e_icmp_ne 57 70 dX12_held_54 (by omega) (by decide) (by decide) rfl (fun b54 => ?_) (fun b54 => ?_)
                · skip
                  refine e_aload_n (i := 0) 71 dX12_held_70 rfl rfl rfl ?_
                  refine e_aload_n (i := 0) 72 dX12_held_71 rfl rfl rfl ?_
                  refine e_getr (j := 1) 75 fl_12_13 dX12_held_72 at_928 rfl rfl tp_928_1 rfl ?_
                  refine e_sipush 78 dX12_held_75 (by decide) rfl ?_
                  refine e_iload_n (i := 3) 79 dX12_held_78 rfl rfl rfl ?_
                  refine e_iadd 80 dX12_held_79 rfl ?_
                  refine e_iald 81 dX12_held_80 ar_929 (by omega) (by omega) rfl (fun r80 => ?_)
                  refine e_callV 84 mt_yX12_dueOf mv_yX12_dueOf wd_1547 (by decide) dX12_held_81 at_928 jc_12 rfl rfl rfl (Nat.le_of_ble_eq_true rfl) (jroom (by decide)) rfl (m_dueOf (hC.1.okP (by omega) (by omega)) ?_)
                  dsimp only [jpush]
                  refine e_iret dX12_held_84 ?_
                  first
                    | (exact ⟨by omega, hI⟩)
                    | (rw [hC.iOf (by omega) (by omega), ht.1.1, (hC.pl (p := M 929 (1311 + (number / 100 - 1))) (by omega) (by omega)).1.2.2.1]
                       exact ⟨rfl, hI⟩)
                · skip
                  refine e_aload_n (i := 0) 58 dX12_held_57 rfl rfl rfl ?_
                  refine e_getr (j := 1) 61 fl_12_13 dX12_held_58 at_928 rfl rfl tp_928_1 rfl ?_
                  refine e_sipush 64 dX12_held_61 (by decide) rfl ?_
                  refine e_iload_n (i := 3) 65 dX12_held_64 rfl rfl rfl ?_
                  refine e_iadd 66 dX12_held_65 rfl ?_
                  refine e_iald 67 dX12_held_66 ar_929 (by omega) (by omega) rfl (fun r66 => ?_)
                  refine e_goto 84 dX12_held_67 (by decide) ?_
                  refine e_iret dX12_held_84 ?_
                  first
                    | (exact ⟨by omega, hI⟩)
                    | (rw [hC.iOf (by omega) (by omega), ht.1.1, (hC.pl (p := M 929 (1311 + (number / 100 - 1))) (by omega) (by omega)).1.2.2.1]
                       exact ⟨rfl, hI⟩)
              · skip
                refine e_aload_n (i := 0) 40 dX12_held_39 rfl rfl rfl ?_
                refine e_getr (j := 1) 43 fl_12_13 dX12_held_40 at_928 rfl rfl tp_928_1 rfl ?_
                refine e_sipush 46 dX12_held_43 (by decide) rfl ?_
                refine e_iload_n (i := 3) 47 dX12_held_46 rfl rfl rfl ?_
                refine e_iadd 48 dX12_held_47 rfl ?_
                refine e_iald 49 dX12_held_48 ar_929 (by omega) (by omega) rfl (fun r48 => ?_)
                refine e_goto 84 dX12_held_49 (by decide) ?_
                refine e_iret dX12_held_84 ?_
                first
                  | (exact ⟨by omega, hI⟩)
                  | (rw [hC.iOf (by omega) (by omega), ht.1.1, (hC.pl (p := M 929 (1311 + (number / 100 - 1))) (by omega) (by omega)).1.2.2.1]
                     exact ⟨rfl, hI⟩)
          · dsimp only [jpush]
            refine e_if_eq 17 25 dX12_held_14 (by decide) (by decide) rfl (fun _ => ?_) (fun h => absurd h (by decide))
            refine e_bipush 27 dX12_held_25 (by decide) rfl ?_
            refine e_iret dX12_held_27 ?_
            first
              | (exact ⟨by omega, hI⟩)
              | (exfalso; (try simp only [tkBad, tkGood] at *); omega)
      · skip
        refine e_bipush 91 dX11_held_89 (by decide) rfl ?_
        refine e_iret dX11_held_91 ?_
        refine jCt_of mt_yX12_held (Nat.le_of_ble_eq_true rfl) (fun X2 => ?_)
        refine e_aload_n (i := 0) 1 dX12_held_0 rfl rfl rfl ?_
        refine e_iconst 2 dX12_held_1 rfl ?_
        refine e_put0 (j := 0) 5 fl_12_1 dX12_held_2 at_928 rfl rfl rfl (by decide) hI.1 rfl ?_
        refine e_iload_n (i := 2) 6 dX12_held_5 rfl rfl rfl ?_
        refine e_i2l 7 dX12_held_6 (by omega) rfl ?_
        refine e_lconst0 8 dX12_held_7 rfl ?_
        refine e_ldc2 (z := (2)) 11 (ix := 243) wd_1546 (by decide) dX12_held_8 rfl ?_
        refine e_callS 14 mt_yX12_within ms_yX12_within wd_1390 (by decide) dX12_held_11 rfl rfl (Nat.le_of_ble_eq_true rfl) (jroom (by decide)) rfl (m_within (by omega) (by omega) (by omega) (fun w11 => ?_) (fun w11 => ?_))
        · dsimp only [jpush]
          refine e_if_eq 17 25 dX12_held_14 (by decide) (by decide) rfl (fun h => absurd h (by decide)) (fun _ => ?_)
          refine e_aload_n (i := 0) 18 dX12_held_17 rfl rfl rfl ?_
          refine e_iload_n (i := 1) 19 dX12_held_18 rfl rfl rfl ?_
          refine e_callV 22 mt_yX12_stateOf mv_yX12_stateOf wd_1535 (by decide) dX12_held_19 at_928 jc_12 rfl rfl rfl (Nat.le_of_ble_eq_true rfl) (jroom (by decide)) rfl (m_stateOf (by omega) hg.2.2.2.1 (fun t a b => (hC.tk a b).2.2.2.1) (fun w19 => ?_) (fun w19 => ?_) (fun w19 => ?_) (fun w19 => ?_))
          · (exfalso; (try simp only [tkBad, tkGood] at *); omega)
          · (exfalso; (try simp only [tkBad, tkGood] at *); omega)
          · (exfalso; (try simp only [tkBad, tkGood] at *); omega)
          · dsimp only [jpush]
            refine e_if_eq 25 28 dX12_held_22 (by decide) (by decide) rfl (fun _ => ?_) (fun h => absurd h (by decide))
            have hg2 := w19.1
            unfold tkGood at hg2
            have ed : number.tdiv 100 = number / 100 := Int.tdiv_eq_ediv_of_nonneg (by omega)
            refine e_iload_n (i := 1) 29 dX12_held_28 rfl rfl rfl ?_
            refine e_bipush 31 dX12_held_29 (by decide) rfl ?_
            refine e_idiv 32 dX12_held_31 (by omega) (by decide) (by decide) rfl ?_
            rw [ed]
            refine e_iconst 33 dX12_held_32 rfl ?_
            refine e_isub 34 dX12_held_33 rfl ?_
            refine e_istore_n (i := 3) (lsn := [(3, _), (0, _), (1, _), (2, _)]) 35 dX12_held_34 rfl (by decide) rfl rfl ?_
            refine e_iload_n (i := 2) 36 dX12_held_35 rfl rfl rfl ?_
            refine e_if_ne 39 52 dX12_held_36 (by omega) (by decide) rfl (fun b36 => ?_) (fun b36 => ?_)
            · skip
              refine e_iload_n (i := 2) 53 dX12_held_52 rfl rfl rfl ?_
              refine e_iconst 54 dX12_held_53 rfl ?_
              refine e_icmp_ne 57 70 dX12_held_54 (by omega) (by decide) (by decide) rfl (fun b54 => ?_) (fun b54 => ?_)
              · skip
                refine e_aload_n (i := 0) 71 dX12_held_70 rfl rfl rfl ?_
                refine e_aload_n (i := 0) 72 dX12_held_71 rfl rfl rfl ?_
                refine e_getr (j := 1) 75 fl_12_13 dX12_held_72 at_928 rfl rfl tp_928_1 rfl ?_
                refine e_sipush 78 dX12_held_75 (by decide) rfl ?_
                refine e_iload_n (i := 3) 79 dX12_held_78 rfl rfl rfl ?_
                refine e_iadd 80 dX12_held_79 rfl ?_
                refine e_iald 81 dX12_held_80 ar_929 (by omega) (by omega) rfl (fun r80 => ?_)
                refine e_callV 84 mt_yX12_dueOf mv_yX12_dueOf wd_1547 (by decide) dX12_held_81 at_928 jc_12 rfl rfl rfl (Nat.le_of_ble_eq_true rfl) (jroom (by decide)) rfl (m_dueOf (hC.1.okP (by omega) (by omega)) ?_)
                dsimp only [jpush]
                refine e_iret dX12_held_84 ?_
                first
                  | (exact ⟨by omega, hI⟩)
                  | (exfalso; (try simp only [tkBad, tkGood] at *); omega)
              · skip
                refine e_aload_n (i := 0) 58 dX12_held_57 rfl rfl rfl ?_
                refine e_getr (j := 1) 61 fl_12_13 dX12_held_58 at_928 rfl rfl tp_928_1 rfl ?_
                refine e_sipush 64 dX12_held_61 (by decide) rfl ?_
                refine e_iload_n (i := 3) 65 dX12_held_64 rfl rfl rfl ?_
                refine e_iadd 66 dX12_held_65 rfl ?_
                refine e_iald 67 dX12_held_66 ar_929 (by omega) (by omega) rfl (fun r66 => ?_)
                refine e_goto 84 dX12_held_67 (by decide) ?_
                refine e_iret dX12_held_84 ?_
                first
                  | (exact ⟨by omega, hI⟩)
                  | (exfalso; (try simp only [tkBad, tkGood] at *); omega)
            · skip
              refine e_aload_n (i := 0) 40 dX12_held_39 rfl rfl rfl ?_
              refine e_getr (j := 1) 43 fl_12_13 dX12_held_40 at_928 rfl rfl tp_928_1 rfl ?_
              refine e_sipush 46 dX12_held_43 (by decide) rfl ?_
              refine e_iload_n (i := 3) 47 dX12_held_46 rfl rfl rfl ?_
              refine e_iadd 48 dX12_held_47 rfl ?_
              refine e_iald 49 dX12_held_48 ar_929 (by omega) (by omega) rfl (fun r48 => ?_)
              refine e_goto 84 dX12_held_49 (by decide) ?_
              refine e_iret dX12_held_84 ?_
              first
                | (exact ⟨by omega, hI⟩)
                | (exfalso; (try simp only [tkBad, tkGood] at *); omega)
        · dsimp only [jpush]
          refine e_if_eq 17 25 dX12_held_14 (by decide) (by decide) rfl (fun _ => ?_) (fun h => absurd h (by decide))
          refine e_bipush 27 dX12_held_25 (by decide) rfl ?_
          refine e_iret dX12_held_27 ?_
          first
            | (exact ⟨by omega, hI⟩)
            | (exfalso; (try simp only [tkBad, tkGood] at *); omega)
    · skip
      refine e_bipush 16 dX11_held_14 (by decide) rfl ?_
      refine e_iret dX11_held_16 ?_
      refine jCt_of mt_yX12_held (Nat.le_of_ble_eq_true rfl) (fun X2 => ?_)
      refine e_aload_n (i := 0) 1 dX12_held_0 rfl rfl rfl ?_
      refine e_iconst 2 dX12_held_1 rfl ?_
      refine e_put0 (j := 0) 5 fl_12_1 dX12_held_2 at_928 rfl rfl rfl (by decide) hI.1 rfl ?_
      refine e_iload_n (i := 2) 6 dX12_held_5 rfl rfl rfl ?_
      refine e_i2l 7 dX12_held_6 (by omega) rfl ?_
      refine e_lconst0 8 dX12_held_7 rfl ?_
      refine e_ldc2 (z := (2)) 11 (ix := 243) wd_1546 (by decide) dX12_held_8 rfl ?_
      refine e_callS 14 mt_yX12_within ms_yX12_within wd_1390 (by decide) dX12_held_11 rfl rfl (Nat.le_of_ble_eq_true rfl) (jroom (by decide)) rfl (m_within (by omega) (by omega) (by omega) (fun w11 => ?_) (fun w11 => ?_))
      · dsimp only [jpush]
        refine e_if_eq 17 25 dX12_held_14 (by decide) (by decide) rfl (fun h => absurd h (by decide)) (fun _ => ?_)
        refine e_aload_n (i := 0) 18 dX12_held_17 rfl rfl rfl ?_
        refine e_iload_n (i := 1) 19 dX12_held_18 rfl rfl rfl ?_
        refine e_callV 22 mt_yX12_stateOf mv_yX12_stateOf wd_1535 (by decide) dX12_held_19 at_928 jc_12 rfl rfl rfl (Nat.le_of_ble_eq_true rfl) (jroom (by decide)) rfl (m_stateOf (by omega) hg.2.2.2.1 (fun t a b => (hC.tk a b).2.2.2.1) (fun w19 => ?_) (fun w19 => ?_) (fun w19 => ?_) (fun w19 => ?_))
        · (exfalso; (try simp only [tkBad, tkGood] at *); omega)
        · (exfalso; (try simp only [tkBad, tkGood] at *); omega)
        · (exfalso; (try simp only [tkBad, tkGood] at *); omega)
        · dsimp only [jpush]
          refine e_if_eq 25 28 dX12_held_22 (by decide) (by decide) rfl (fun _ => ?_) (fun h => absurd h (by decide))
          have hg2 := w19.1
          unfold tkGood at hg2
          have ed : number.tdiv 100 = number / 100 := Int.tdiv_eq_ediv_of_nonneg (by omega)
          refine e_iload_n (i := 1) 29 dX12_held_28 rfl rfl rfl ?_
          refine e_bipush 31 dX12_held_29 (by decide) rfl ?_
          refine e_idiv 32 dX12_held_31 (by omega) (by decide) (by decide) rfl ?_
          rw [ed]
          refine e_iconst 33 dX12_held_32 rfl ?_
          refine e_isub 34 dX12_held_33 rfl ?_
          refine e_istore_n (i := 3) (lsn := [(3, _), (0, _), (1, _), (2, _)]) 35 dX12_held_34 rfl (by decide) rfl rfl ?_
          refine e_iload_n (i := 2) 36 dX12_held_35 rfl rfl rfl ?_
          refine e_if_ne 39 52 dX12_held_36 (by omega) (by decide) rfl (fun b36 => ?_) (fun b36 => ?_)
          · skip
            refine e_iload_n (i := 2) 53 dX12_held_52 rfl rfl rfl ?_
            refine e_iconst 54 dX12_held_53 rfl ?_
            refine e_icmp_ne 57 70 dX12_held_54 (by omega) (by decide) (by decide) rfl (fun b54 => ?_) (fun b54 => ?_)
            · skip
              refine e_aload_n (i := 0) 71 dX12_held_70 rfl rfl rfl ?_
              refine e_aload_n (i := 0) 72 dX12_held_71 rfl rfl rfl ?_
              refine e_getr (j := 1) 75 fl_12_13 dX12_held_72 at_928 rfl rfl tp_928_1 rfl ?_
              refine e_sipush 78 dX12_held_75 (by decide) rfl ?_
              refine e_iload_n (i := 3) 79 dX12_held_78 rfl rfl rfl ?_
              refine e_iadd 80 dX12_held_79 rfl ?_
              refine e_iald 81 dX12_held_80 ar_929 (by omega) (by omega) rfl (fun r80 => ?_)
              refine e_callV 84 mt_yX12_dueOf mv_yX12_dueOf wd_1547 (by decide) dX12_held_81 at_928 jc_12 rfl rfl rfl (Nat.le_of_ble_eq_true rfl) (jroom (by decide)) rfl (m_dueOf (hC.1.okP (by omega) (by omega)) ?_)
              dsimp only [jpush]
              refine e_iret dX12_held_84 ?_
              first
                | (exact ⟨by omega, hI⟩)
                | (exfalso; (try simp only [tkBad, tkGood] at *); omega)
            · skip
              refine e_aload_n (i := 0) 58 dX12_held_57 rfl rfl rfl ?_
              refine e_getr (j := 1) 61 fl_12_13 dX12_held_58 at_928 rfl rfl tp_928_1 rfl ?_
              refine e_sipush 64 dX12_held_61 (by decide) rfl ?_
              refine e_iload_n (i := 3) 65 dX12_held_64 rfl rfl rfl ?_
              refine e_iadd 66 dX12_held_65 rfl ?_
              refine e_iald 67 dX12_held_66 ar_929 (by omega) (by omega) rfl (fun r66 => ?_)
              refine e_goto 84 dX12_held_67 (by decide) ?_
              refine e_iret dX12_held_84 ?_
              first
                | (exact ⟨by omega, hI⟩)
                | (exfalso; (try simp only [tkBad, tkGood] at *); omega)
          · skip
            refine e_aload_n (i := 0) 40 dX12_held_39 rfl rfl rfl ?_
            refine e_getr (j := 1) 43 fl_12_13 dX12_held_40 at_928 rfl rfl tp_928_1 rfl ?_
            refine e_sipush 46 dX12_held_43 (by decide) rfl ?_
            refine e_iload_n (i := 3) 47 dX12_held_46 rfl rfl rfl ?_
            refine e_iadd 48 dX12_held_47 rfl ?_
            refine e_iald 49 dX12_held_48 ar_929 (by omega) (by omega) rfl (fun r48 => ?_)
            refine e_goto 84 dX12_held_49 (by decide) ?_
            refine e_iret dX12_held_84 ?_
            first
              | (exact ⟨by omega, hI⟩)
              | (exfalso; (try simp only [tkBad, tkGood] at *); omega)
      · dsimp only [jpush]
        refine e_if_eq 17 25 dX12_held_14 (by decide) (by decide) rfl (fun _ => ?_) (fun h => absurd h (by decide))
        refine e_bipush 27 dX12_held_25 (by decide) rfl ?_
        refine e_iret dX12_held_27 ?_
        first
          | (exact ⟨by omega, hI⟩)
          | (exfalso; (try simp only [tkBad, tkGood] at *); omega)
  · dsimp only [jpush]
    refine e_istore_n (i := 3) (lsn := [(3, _), (0, _), (1, _), (2, _)]) 9 dX11_held_8 rfl (by decide) rfl rfl ?_
    refine e_iload_n (i := 3) 10 dX11_held_9 rfl rfl rfl ?_
    refine e_iconst 11 dX11_held_10 rfl ?_
    refine e_icmp_ne 14 17 dX11_held_11 (by decide) (by decide) (by decide) rfl (fun h => absurd h (by decide)) (fun _ => ?_)
    refine e_bipush 16 dX11_held_14 (by decide) rfl ?_
    refine e_iret dX11_held_16 ?_
    refine jCt_of mt_yX12_held (Nat.le_of_ble_eq_true rfl) (fun X2 => ?_)
    refine e_aload_n (i := 0) 1 dX12_held_0 rfl rfl rfl ?_
    refine e_iconst 2 dX12_held_1 rfl ?_
    refine e_put0 (j := 0) 5 fl_12_1 dX12_held_2 at_928 rfl rfl rfl (by decide) hI.1 rfl ?_
    refine e_iload_n (i := 2) 6 dX12_held_5 rfl rfl rfl ?_
    refine e_i2l 7 dX12_held_6 (by omega) rfl ?_
    refine e_lconst0 8 dX12_held_7 rfl ?_
    refine e_ldc2 (z := (2)) 11 (ix := 243) wd_1546 (by decide) dX12_held_8 rfl ?_
    refine e_callS 14 mt_yX12_within ms_yX12_within wd_1390 (by decide) dX12_held_11 rfl rfl (Nat.le_of_ble_eq_true rfl) (jroom (by decide)) rfl (m_within (by omega) (by omega) (by omega) (fun w11 => ?_) (fun w11 => ?_))
    · dsimp only [jpush]
      refine e_if_eq 17 25 dX12_held_14 (by decide) (by decide) rfl (fun h => absurd h (by decide)) (fun _ => ?_)
      refine e_aload_n (i := 0) 18 dX12_held_17 rfl rfl rfl ?_
      refine e_iload_n (i := 1) 19 dX12_held_18 rfl rfl rfl ?_
      refine e_callV 22 mt_yX12_stateOf mv_yX12_stateOf wd_1535 (by decide) dX12_held_19 at_928 jc_12 rfl rfl rfl (Nat.le_of_ble_eq_true rfl) (jroom (by decide)) rfl (m_stateOf (by omega) hg.2.2.2.1 (fun t a b => (hC.tk a b).2.2.2.1) (fun w19 => ?_) (fun w19 => ?_) (fun w19 => ?_) (fun w19 => ?_))
      · dsimp only [jpush]
        refine e_if_eq 25 28 dX12_held_22 (by decide) (by decide) rfl (fun h => absurd h (by decide)) (fun _ => ?_)
        refine e_bipush 27 dX12_held_25 (by decide) rfl ?_
        refine e_iret dX12_held_27 ?_
        first
          | (exact ⟨by omega, hI⟩)
          | (exfalso; (try simp only [tkBad, tkGood] at *); omega)
      · dsimp only [jpush]
        refine e_if_eq 25 28 dX12_held_22 (by decide) (by decide) rfl (fun h => absurd h (by decide)) (fun _ => ?_)
        refine e_bipush 27 dX12_held_25 (by decide) rfl ?_
        refine e_iret dX12_held_27 ?_
        first
          | (exact ⟨by omega, hI⟩)
          | (exfalso; (try simp only [tkBad, tkGood] at *); omega)
      · dsimp only [jpush]
        refine e_if_eq 25 28 dX12_held_22 (by decide) (by decide) rfl (fun h => absurd h (by decide)) (fun _ => ?_)
        refine e_bipush 27 dX12_held_25 (by decide) rfl ?_
        refine e_iret dX12_held_27 ?_
        first
          | (exact ⟨by omega, hI⟩)
          | (exfalso; (try simp only [tkBad, tkGood] at *); omega)
      · (exfalso; (try simp only [tkBad, tkGood] at *); omega)
    · dsimp only [jpush]
      refine e_if_eq 17 25 dX12_held_14 (by decide) (by decide) rfl (fun _ => ?_) (fun h => absurd h (by decide))
      refine e_bipush 27 dX12_held_25 (by decide) rfl ?_
      refine e_iret dX12_held_27 ?_
      first
        | (exact ⟨by omega, hI⟩)
        | (exfalso; (try simp only [tkBad, tkGood] at *); omega)

