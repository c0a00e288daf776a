/-! PAIRS: swear -/
theorem p_swear {M : jM} (hI : Inv M) {pledge : Int} (hpledge : -2147483648 ≤ pledge ∧ pledge ≤ 2147483647) : jCt yX11_swear cX11_swear 5 (some .int) 3 [jR 0, jI pledge] M (fun z M1 => jCt yX12_swear cX12_swear 3 (some .int) 3 [jR 928, jI pledge] M1 (fun z2 M2 => z = z2 ∧ Inv M2)) := by
  have hC := hI.cr
  have hn := hC.cnt
  have hg := hC.rng
  refine jCt_of mt_yX11_swear (Nat.le_of_ble_eq_true rfl) (fun X => ?_)
  refine e_aload_n (i := 0) 1 dX11_swear_0 rfl rfl rfl ?_
  refine e_getr (j := 0) 4 fl_11_10 dX11_swear_1 at_0 rfl rfl tp_0_0 rfl ?_
  refine e_iload_n (i := 1) 5 dX11_swear_4 rfl rfl rfl ?_
  refine e_callV 8 mt_yX8_hasPledge mv_yX8_hasPledge wd_854 (by decide) dX11_swear_5 at_1 jc_8 rfl rfl rfl (Nat.le_of_ble_eq_true rfl) (jroom (by decide)) rfl (c_hasPledge (by (try simp (disch := omega) only [jset_k, jset_j, jset_same, true_and, and_true, cKill_o, rKill_o]); omega) (fun w5 => ?_) (fun w5 => ?_))
  · dsimp only [jpush]
    (try simp (disch := omega) only [jset_k, jset_j, jset_same, true_and, and_true, cKill_o, rKill_o])
    refine e_if_ne 11 14 dX11_swear_8 (by decide) (by decide) rfl (fun _ => ?_) (fun h => absurd h (by decide))
    refine e_aload_n (i := 0) 15 dX11_swear_14 rfl rfl rfl ?_
    refine e_getr (j := 0) 18 fl_11_10 dX11_swear_15 at_0 rfl rfl tp_0_0 rfl ?_
    refine e_geti (j := 12) 21 fl_11_222 dX11_swear_18 at_1 (by decide) rfl rfl (fun r18 => ?_)
    refine e_sipush 24 dX11_swear_21 (by decide) rfl ?_
    refine e_icmp_lt 27 30 dX11_swear_24 (by omega) (by decide) (by decide) rfl (fun b24 => ?_) (fun b24 => ?_)
    · skip
      have hp := hC.pl (p := pledge) (by omega) (by omega)
      have hpr := hC.plr (p := pledge) (by omega) (by omega)
      have hu := hC.rule
      have hq := hC.pers hpr.2.1.1 hpr.2.1.2
      have e0 : M (68 + M (84 + pledge) 1) 3 = M 929 (692 + M 929 (770 + pledge)) := by rw [hp.1.2.1]; exact hq.1.2.2.2.1
      refine e_aload_n (i := 0) 31 dX11_swear_30 rfl rfl rfl ?_
      refine e_getr (j := 0) 34 fl_11_10 dX11_swear_31 at_0 rfl rfl tp_0_0 rfl ?_
      refine e_getr (j := 9) 37 fl_11_200 dX11_swear_34 at_1 rfl rfl tp_1_9 rfl ?_
      refine e_iload_n (i := 1) 38 dX11_swear_37 rfl rfl rfl ?_
      refine e_aald 39 dX11_swear_38 ar_18 (by decide) (by omega) (by omega) (tp_pledge (by omega) (by omega)) rfl ?_
      refine e_astore_n (i := 2) (lsn := [(2, _), (0, _), (1, _)]) 40 dX11_swear_39 rfl (by decide) rfl rfl ?_
      refine e_aload_n (i := 2) 41 dX11_swear_40 rfl rfl rfl ?_
      refine e_geti (j := 6) 44 fl_11_247 dX11_swear_41 (at_pledge (by omega) (by omega)) (by decide) rfl rfl (fun r41 => ?_)
      refine e_if_eq 47 50 dX11_swear_44 (by omega) (by decide) rfl (fun b44 => ?_) (fun b44 => ?_)
      · skip
        refine e_aload_n (i := 0) 51 dX11_swear_50 rfl rfl rfl ?_
        refine e_getr (j := 0) 54 fl_11_10 dX11_swear_51 at_0 rfl rfl tp_0_0 rfl ?_
        refine e_getr (j := 7) 57 fl_11_149 dX11_swear_54 at_1 rfl rfl tp_1_7 rfl ?_
        refine e_aload_n (i := 2) 58 dX11_swear_57 rfl rfl rfl ?_
        refine e_geti (j := 1) 61 fl_11_250 dX11_swear_58 (at_pledge (by omega) (by omega)) (by decide) rfl rfl (fun r58 => ?_)
        refine e_aald 62 dX11_swear_61 ar_17 (by decide) (by omega) (by omega) (tp_person (by omega) (by omega)) rfl ?_
        refine e_astore_n (i := 3) (lsn := [(3, _), (2, _), (0, _), (1, _)]) 63 dX11_swear_62 rfl (by decide) rfl rfl ?_
        refine e_aload_n (i := 0) 64 dX11_swear_63 rfl rfl rfl ?_
        refine e_getr (j := 0) 67 fl_11_10 dX11_swear_64 at_0 rfl rfl tp_0_0 rfl ?_
        refine e_getr (j := 0) 70 fl_11_73 dX11_swear_67 at_1 rfl rfl tp_1_0 rfl ?_
        refine e_getr (j := 4) 73 fl_11_225 dX11_swear_70 at_2 rfl rfl tp_2_4 rfl ?_
        refine e_iconst 74 dX11_swear_73 rfl ?_
        refine e_iald 75 dX11_swear_74 ar_6 (by decide) (by decide) rfl (fun r74 => ?_)
        refine e_istore (lsn := [(4, _), (3, _), (2, _), (0, _), (1, _)]) 77 dX11_swear_75 (by decide) rfl rfl ?_
        refine e_aload_n (i := 3) 78 dX11_swear_77 rfl rfl rfl ?_
        refine e_geti (j := 3) 81 fl_11_164 dX11_swear_78 (at_person (by omega) (by omega)) (by decide) rfl rfl (fun r78 => ?_)
        refine e_iload 83 dX11_swear_81 rfl rfl ?_
        refine e_icmp_ge 86 89 dX11_swear_83 (by omega) (by omega) (by decide) rfl (fun b83 => ?_) (fun b83 => ?_)
        · skip
          refine e_aload_n (i := 3) 90 dX11_swear_89 rfl rfl rfl ?_
          refine e_dup 91 dX11_swear_90 rfl rfl ?_
          refine e_geti (j := 3) 94 fl_11_164 dX11_swear_91 (at_person (by omega) (by omega)) (by decide) rfl rfl (fun r91 => ?_)
          refine e_iload 96 dX11_swear_94 rfl rfl ?_
          refine e_isub 97 dX11_swear_96 rfl ?_
          refine e_putw (j := 3) 100 fl_11_164 dX11_swear_97 (at_person (by omega) (by omega)) rfl rfl rfl rfl ?_
          refine e_aload_n (i := 0) 101 dX11_swear_100 rfl rfl rfl ?_
          refine e_getr (j := 0) 104 fl_11_10 dX11_swear_101 at_0 rfl rfl tp_0_0 rfl ?_
          refine e_iload_n (i := 1) 105 dX11_swear_104 rfl rfl rfl ?_
          refine e_callV 108 mt_yX8_killTickets mv_yX8_killTickets wd_858 (by decide) dX11_swear_105 at_1 jc_8 rfl rfl rfl (Nat.le_of_ble_eq_true rfl) (jroom (by decide)) rfl (c_killTickets (by (try simp (disch := omega) only [jset_k, jset_j, jset_same, true_and, and_true, cKill_o, rKill_o]); omega) (by (try simp (disch := omega) only [jset_k, jset_j, jset_same, true_and, and_true, cKill_o, rKill_o]); omega) ?_)
          dsimp only [jpush]
          (try simp (disch := omega) only [jset_k, jset_j, jset_same, true_and, and_true, cKill_o, rKill_o])
          refine e_aload_n (i := 0) 109 dX11_swear_108 rfl rfl rfl ?_
          refine e_getr (j := 0) 112 fl_11_10 dX11_swear_109 at_0 rfl rfl tp_0_0 rfl ?_
          refine e_iload_n (i := 1) 113 dX11_swear_112 rfl rfl rfl ?_
          refine e_aload_n (i := 2) 114 dX11_swear_113 rfl rfl rfl ?_
          refine e_geti (j := 1) 117 fl_11_250 dX11_swear_114 (at_pledge (by omega) (by omega)) (by decide) rfl rfl (fun r114 => ?_)
          simp (disch := omega) only [jset_k, jset_j, jset_same, true_and, and_true, cKill_o, rKill_o] at r114 ⊢
          refine e_callV 120 mt_yX8_issue mv_yX8_issue wd_849 (by decide) dX11_swear_117 at_1 jc_8 rfl rfl rfl (Nat.le_of_ble_eq_true rfl) (jroom (by decide)) rfl (c_issue (by (try simp (disch := omega) only [jset_k, jset_j, jset_same, true_and, and_true, cKill_o, rKill_o]); omega) (by (try simp (disch := omega) only [jset_k, jset_j, jset_same, true_and, and_true, cKill_o, rKill_o]); omega) (by (try simp (disch := omega) only [jset_k, jset_j, jset_same, true_and, and_true, cKill_o, rKill_o]); omega) ?_)
          dsimp only [jpush]
          (try simp (disch := omega) only [jset_k, jset_j, jset_same, true_and, and_true, cKill_o, rKill_o])
          refine e_iret dX11_swear_120 ?_
          refine mem_gen (P := fun M1 => jCt yX12_swear cX12_swear 3 (some .int) 3 [jR 928, jI pledge] M1 (fun z2 M2 => _ = z2 ∧ Inv M2)) (fun M1 hM1 => ?_)
          have hA : M1 929 = M 929 := by rw [hM1]; simp (disch := first | omega | (simp (disch := omega) only [jset_k, jset_j, jset_same, true_and, and_true, cKill_o, rKill_o]; omega)) only [rGive_929, rKill_929, jset_929, cGive_hi, cKill_hi, cEnter_hi, jset_row]
          have hT : M1 928 0 = 0 := by rw [hM1]; simp (disch := first | omega | (simp (disch := omega) only [jset_k, jset_j, jset_same, true_and, and_true, cKill_o, rKill_o]; omega)) only [rGive_929, rKill_929, jset_929, cGive_hi, cKill_hi, cEnter_hi, jset_row]; exact hI.1
          refine jCt_of mt_yX12_swear (Nat.le_of_ble_eq_true rfl) (fun X2 => ?_)
          refine e_aload_n (i := 0) 1 dX12_swear_0 rfl rfl rfl ?_
          refine e_iconst 2 dX12_swear_1 rfl ?_
          refine e_put0 (j := 0) 5 fl_12_1 dX12_swear_2 at_928 rfl rfl rfl (by decide) (by first | exact hT | (simp (disch := omega) only [jset_k, jset_j, jset_same, true_and, and_true, hA, cKill_o, rKill_o]; exact hT)) rfl ?_
          refine e_aload_n (i := 0) 6 dX12_swear_5 rfl rfl rfl ?_
          refine e_iload_n (i := 1) 7 dX12_swear_6 rfl rfl rfl ?_
          refine e_callV 10 mt_yX12_isPledge mv_yX12_isPledge wd_1579 (by decide) dX12_swear_7 at_928 jc_12 rfl rfl rfl (Nat.le_of_ble_eq_true rfl) (jroom (by decide)) rfl (m_isPledge (by (try simp (disch := omega) only [jset_k, jset_j, jset_same, true_and, and_true, hA, cKill_o, rKill_o]); omega) (fun w7 => ?_) (fun w7 => ?_))
          · dsimp only [jpush]
            (try simp (disch := omega) only [jset_k, jset_j, jset_same, true_and, and_true, hA, cKill_o, rKill_o] at w7)
            (try simp (disch := omega) only [jset_k, jset_j, jset_same, true_and, and_true, hA, cKill_o, rKill_o])
            first
             | (exfalso; omega)
             | (skip
                refine e_if_ne 13 16 dX12_swear_10 (by decide) (by decide) rfl (fun _ => ?_) (fun h => absurd h (by decide))
                refine e_aload_n (i := 0) 17 dX12_swear_16 rfl rfl rfl ?_
                refine e_getr (j := 1) 20 fl_12_13 dX12_swear_17 at_928 rfl rfl tp_928_1 rfl ?_
                refine e_sipush 23 dX12_swear_20 (by decide) rfl ?_
                refine e_iald 24 dX12_swear_23 ar_929 (by decide) (by decide) rfl (fun r23 => ?_)
                simp (disch := omega) only [jset_k, jset_j, jset_same, true_and, and_true, hA, cKill_o, rKill_o] at r23 ⊢
                refine e_sipush 27 dX12_swear_24 (by decide) rfl ?_
                refine e_icmp_ne 30 33 dX12_swear_27 (by omega) (by decide) (by decide) rfl (fun b27 => ?_) (fun b27 => ?_)
                · first
                   | (exfalso; omega)
                   | (skip
                      refine e_aload_n (i := 0) 34 dX12_swear_33 rfl rfl rfl ?_
                      refine e_getr (j := 1) 37 fl_12_13 dX12_swear_34 at_928 rfl rfl tp_928_1 rfl ?_
                      refine e_sipush 40 dX12_swear_37 (by decide) rfl ?_
                      refine e_iload_n (i := 1) 41 dX12_swear_40 rfl rfl rfl ?_
                      refine e_iadd 42 dX12_swear_41 rfl ?_
                      refine e_iald 43 dX12_swear_42 ar_929 (by omega) (by omega) rfl (fun r42 => ?_)
                      simp (disch := omega) only [jset_k, jset_j, jset_same, true_and, and_true, hA, cKill_o, rKill_o] at r42 ⊢
                      refine e_if_eq 46 49 dX12_swear_43 (by omega) (by decide) rfl (fun b43 => ?_) (fun b43 => ?_)
                      · first
                         | (exfalso; omega)
                         | (skip
                            refine e_aload_n (i := 0) 50 dX12_swear_49 rfl rfl rfl ?_
                            refine e_getr (j := 1) 53 fl_12_13 dX12_swear_50 at_928 rfl rfl tp_928_1 rfl ?_
                            refine e_sipush 56 dX12_swear_53 (by decide) rfl ?_
                            refine e_iload_n (i := 1) 57 dX12_swear_56 rfl rfl rfl ?_
                            refine e_iadd 58 dX12_swear_57 rfl ?_
                            refine e_iald 59 dX12_swear_58 ar_929 (by omega) (by omega) rfl (fun r58 => ?_)
                            simp (disch := omega) only [jset_k, jset_j, jset_same, true_and, and_true, hA, cKill_o, rKill_o] at r58 ⊢
                            refine e_istore_n (i := 2) (lsn := [(2, _), (0, _), (1, _)]) 60 dX12_swear_59 rfl (by decide) rfl rfl ?_
                            refine e_aload_n (i := 0) 61 dX12_swear_60 rfl rfl rfl ?_
                            refine e_getr (j := 1) 64 fl_12_13 dX12_swear_61 at_928 rfl rfl tp_928_1 rfl ?_
                            refine e_sipush 67 dX12_swear_64 (by decide) rfl ?_
                            refine e_iload_n (i := 2) 68 dX12_swear_67 rfl rfl rfl ?_
                            refine e_iadd 69 dX12_swear_68 rfl ?_
                            refine e_iald 70 dX12_swear_69 ar_929 (by omega) (by omega) rfl (fun r69 => ?_)
                            simp (disch := omega) only [jset_k, jset_j, jset_same, true_and, and_true, hA, cKill_o, rKill_o] at r69 ⊢
                            refine e_aload_n (i := 0) 71 dX12_swear_70 rfl rfl rfl ?_
                            refine e_getr (j := 1) 74 fl_12_13 dX12_swear_71 at_928 rfl rfl tp_928_1 rfl ?_
                            refine e_bipush 76 dX12_swear_74 (by decide) rfl ?_
                            refine e_iald 77 dX12_swear_76 ar_929 (by decide) (by decide) rfl (fun r76 => ?_)
                            simp (disch := omega) only [jset_k, jset_j, jset_same, true_and, and_true, hA, cKill_o, rKill_o] at r76 ⊢
                            refine e_icmp_ge 80 83 dX12_swear_77 (by omega) (by omega) (by decide) rfl (fun b77 => ?_) (fun b77 => ?_)
                            · first
                               | (exfalso; omega)
                               | (skip
                                  refine e_aload_n (i := 0) 84 dX12_swear_83 rfl rfl rfl ?_
                                  refine e_getr (j := 1) 87 fl_12_13 dX12_swear_84 at_928 rfl rfl tp_928_1 rfl ?_
                                  refine e_sipush 90 dX12_swear_87 (by decide) rfl ?_
                                  refine e_iload_n (i := 2) 91 dX12_swear_90 rfl rfl rfl ?_
                                  refine e_iadd 92 dX12_swear_91 rfl ?_
                                  refine e_dup2 93 dX12_swear_92 rfl rfl rfl ?_
                                  refine e_iald 94 dX12_swear_93 ar_929 (by omega) (by omega) rfl (fun r93 => ?_)
                                  simp (disch := omega) only [jset_k, jset_j, jset_same, true_and, and_true, hA, cKill_o, rKill_o] at r93 ⊢
                                  refine e_aload_n (i := 0) 95 dX12_swear_94 rfl rfl rfl ?_
                                  refine e_getr (j := 1) 98 fl_12_13 dX12_swear_95 at_928 rfl rfl tp_928_1 rfl ?_
                                  refine e_bipush 100 dX12_swear_98 (by decide) rfl ?_
                                  refine e_iald 101 dX12_swear_100 ar_929 (by decide) (by decide) rfl (fun r100 => ?_)
                                  simp (disch := omega) only [jset_k, jset_j, jset_same, true_and, and_true, hA, cKill_o, rKill_o] at r100 ⊢
                                  refine e_isub 102 dX12_swear_101 rfl ?_
                                  refine e_iastw 103 dX12_swear_102 ar_929 (by omega) (by omega) rfl ?_
                                  refine e_aload_n (i := 0) 104 dX12_swear_103 rfl rfl rfl ?_
                                  refine e_iload_n (i := 1) 105 dX12_swear_104 rfl rfl rfl ?_
                                  refine e_callV 108 mt_yX12_kills mv_yX12_kills wd_1567 (by decide) dX12_swear_105 at_928 jc_12 rfl rfl rfl (Nat.le_of_ble_eq_true rfl) (jroom (by decide)) rfl (m_kills (by (try simp (disch := omega) only [jset_k, jset_j, jset_same, true_and, and_true, hA, cKill_o, rKill_o]); omega) (by (try simp (disch := omega) only [jset_k, jset_j, jset_same, true_and, and_true, hA, cKill_o, rKill_o]); omega) ?_)
                                  dsimp only [jpush]
                                  (try simp (disch := omega) only [jset_k, jset_j, jset_same, true_and, and_true, hA, cKill_o, rKill_o])
                                  refine e_aload_n (i := 0) 109 dX12_swear_108 rfl rfl rfl ?_
                                  refine e_iload_n (i := 1) 110 dX12_swear_109 rfl rfl rfl ?_
                                  refine e_iload_n (i := 2) 111 dX12_swear_110 rfl rfl rfl ?_
                                  refine e_callV 114 mt_yX12_gives mv_yX12_gives wd_1524 (by decide) dX12_swear_111 at_928 jc_12 rfl rfl rfl (Nat.le_of_ble_eq_true rfl) (jroom (by decide)) rfl (m_gives (by (try simp (disch := omega) only [jset_k, jset_j, jset_same, true_and, and_true, hA, cKill_o, rKill_o]); omega) (by (try simp (disch := omega) only [jset_k, jset_j, jset_same, true_and, and_true, hA, cKill_o, rKill_o]); omega) (by (try simp (disch := omega) only [jset_k, jset_j, jset_same, true_and, and_true, hA, cKill_o, rKill_o]); omega) ?_)
                                  dsimp only [jpush]
                                  (try simp (disch := omega) only [jset_k, jset_j, jset_same, true_and, and_true, hA, cKill_o, rKill_o])
                                  refine e_iret dX12_swear_114 ?_
                                  first
                                    | (exact ⟨by omega, hI⟩)
                                    | (exfalso; omega)
                                    | ((try subst hM1)
                                       refine ⟨by first | omega | exact congrArg tkNum (by omega), ?_⟩
                                       have s1 := step_purse hI (q := M 929 (770 + pledge)) (v := w32 (M 929 (692 + M 929 (770 + pledge)) - M 929 27)) (by omega) rfl
                                       have s2 := step_kill s1 (p := pledge) (n := M 929 1310) (n2 := M 929 1310) (by (try simp (disch := omega) only [jset_k, jset_j, jset_same, true_and, and_true, cKill_o, rKill_o]); try omega) (by (try simp (disch := omega) only [jset_k, jset_j, jset_same, true_and, and_true, cKill_o, rKill_o]); try omega)
                                       have s3 := step_give s2 (p := pledge) (q := M 929 (770 + pledge)) (by (try simp (disch := omega) only [jset_k, jset_j, jset_same, true_and, and_true, cKill_o, rKill_o]); try omega) (by (try simp (disch := omega) only [jset_k, jset_j, jset_same, true_and, and_true, cKill_o, rKill_o]); try omega) (by (try simp (disch := omega) only [jset_k, jset_j, jset_same, true_and, and_true, cKill_o, rKill_o]); try omega)
                                       refine inv_eq s3 ?_ ?_
                                       · repeat (first | exact Ceq.rf | refine Ceq.lg ?_ | refine Ceq.rg ?_ | refine Ceq.lk ?_ | refine Ceq.rk ?_ | refine Ceq.lr ?_ | refine Ceq.rr ?_ | refine Ceq.give ?_ (by omega) (by omega) | refine Ceq.kill ?_ (by omega) (by omega) | refine Ceq.set ?_ (by omega) (by omega) (by first | rfl | omega | exact congrArg w32 (by omega)))
                                       · simp (disch := first | omega | (simp (disch := omega) only [jset_k, jset_j, jset_same, true_and, and_true, cKill_o, rKill_o]; omega)) only [rGive_929, rKill_929, jset_929, cGive_hi, cKill_hi, cEnter_hi, jset_row]))
                            · first
                               | (exfalso; omega)
                               | (skip
                                  refine e_bipush 82 dX12_swear_80 (by decide) rfl ?_
                                  refine e_iret dX12_swear_82 ?_
                                  first
                                    | (exact ⟨by omega, hI⟩)
                                    | (exfalso; omega)
                                    | ((try subst hM1)
                                       refine ⟨by first | omega | exact congrArg tkNum (by omega), ?_⟩
                                       have s1 := step_purse hI (q := M 929 (770 + pledge)) (v := w32 (M 929 (692 + M 929 (770 + pledge)) - M 929 27)) (by omega) rfl
                                       have s2 := step_kill s1 (p := pledge) (n := M 929 1310) (n2 := M 929 1310) (by (try simp (disch := omega) only [jset_k, jset_j, jset_same, true_and, and_true, cKill_o, rKill_o]); try omega) (by (try simp (disch := omega) only [jset_k, jset_j, jset_same, true_and, and_true, cKill_o, rKill_o]); try omega)
                                       have s3 := step_give s2 (p := pledge) (q := M 929 (770 + pledge)) (by (try simp (disch := omega) only [jset_k, jset_j, jset_same, true_and, and_true, cKill_o, rKill_o]); try omega) (by (try simp (disch := omega) only [jset_k, jset_j, jset_same, true_and, and_true, cKill_o, rKill_o]); try omega) (by (try simp (disch := omega) only [jset_k, jset_j, jset_same, true_and, and_true, cKill_o, rKill_o]); try omega)
                                       refine inv_eq s3 ?_ ?_
                                       · repeat (first | exact Ceq.rf | refine Ceq.lg ?_ | refine Ceq.rg ?_ | refine Ceq.lk ?_ | refine Ceq.rk ?_ | refine Ceq.lr ?_ | refine Ceq.rr ?_ | refine Ceq.give ?_ (by omega) (by omega) | refine Ceq.kill ?_ (by omega) (by omega) | refine Ceq.set ?_ (by omega) (by omega) (by first | rfl | omega | exact congrArg w32 (by omega)))
                                       · simp (disch := first | omega | (simp (disch := omega) only [jset_k, jset_j, jset_same, true_and, and_true, cKill_o, rKill_o]; omega)) only [rGive_929, rKill_929, jset_929, cGive_hi, cKill_hi, cEnter_hi, jset_row])))
                      · first
                         | (exfalso; omega)
                         | (skip
                            refine e_bipush 48 dX12_swear_46 (by decide) rfl ?_
                            refine e_iret dX12_swear_48 ?_
                            first
                              | (exact ⟨by omega, hI⟩)
                              | (exfalso; omega)
                              | ((try subst hM1)
                                 refine ⟨by first | omega | exact congrArg tkNum (by omega), ?_⟩
                                 have s1 := step_purse hI (q := M 929 (770 + pledge)) (v := w32 (M 929 (692 + M 929 (770 + pledge)) - M 929 27)) (by omega) rfl
                                 have s2 := step_kill s1 (p := pledge) (n := M 929 1310) (n2 := M 929 1310) (by (try simp (disch := omega) only [jset_k, jset_j, jset_same, true_and, and_true, cKill_o, rKill_o]); try omega) (by (try simp (disch := omega) only [jset_k, jset_j, jset_same, true_and, and_true, cKill_o, rKill_o]); try omega)
                                 have s3 := step_give s2 (p := pledge) (q := M 929 (770 + pledge)) (by (try simp (disch := omega) only [jset_k, jset_j, jset_same, true_and, and_true, cKill_o, rKill_o]); try omega) (by (try simp (disch := omega) only [jset_k, jset_j, jset_same, true_and, and_true, cKill_o, rKill_o]); try omega) (by (try simp (disch := omega) only [jset_k, jset_j, jset_same, true_and, and_true, cKill_o, rKill_o]); try omega)
                                 refine inv_eq s3 ?_ ?_
                                 · repeat (first | exact Ceq.rf | refine Ceq.lg ?_ | refine Ceq.rg ?_ | refine Ceq.lk ?_ | refine Ceq.rk ?_ | refine Ceq.lr ?_ | refine Ceq.rr ?_ | refine Ceq.give ?_ (by omega) (by omega) | refine Ceq.kill ?_ (by omega) (by omega) | refine Ceq.set ?_ (by omega) (by omega) (by first | rfl | omega | exact congrArg w32 (by omega)))
                                 · simp (disch := first | omega | (simp (disch := omega) only [jset_k, jset_j, jset_same, true_and, and_true, cKill_o, rKill_o]; omega)) only [rGive_929, rKill_929, jset_929, cGive_hi, cKill_hi, cEnter_hi, jset_row])))
                · first
                   | (exfalso; omega)
                   | (skip
                      refine e_bipush 32 dX12_swear_30 (by decide) rfl ?_
                      refine e_iret dX12_swear_32 ?_
                      first
                        | (exact ⟨by omega, hI⟩)
                        | (exfalso; omega)
                        | ((try subst hM1)
                           refine ⟨by first | omega | exact congrArg tkNum (by omega), ?_⟩
                           have s1 := step_purse hI (q := M 929 (770 + pledge)) (v := w32 (M 929 (692 + M 929 (770 + pledge)) - M 929 27)) (by omega) rfl
                           have s2 := step_kill s1 (p := pledge) (n := M 929 1310) (n2 := M 929 1310) (by (try simp (disch := omega) only [jset_k, jset_j, jset_same, true_and, and_true, cKill_o, rKill_o]); try omega) (by (try simp (disch := omega) only [jset_k, jset_j, jset_same, true_and, and_true, cKill_o, rKill_o]); try omega)
                           have s3 := step_give s2 (p := pledge) (q := M 929 (770 + pledge)) (by (try simp (disch := omega) only [jset_k, jset_j, jset_same, true_and, and_true, cKill_o, rKill_o]); try omega) (by (try simp (disch := omega) only [jset_k, jset_j, jset_same, true_and, and_true, cKill_o, rKill_o]); try omega) (by (try simp (disch := omega) only [jset_k, jset_j, jset_same, true_and, and_true, cKill_o, rKill_o]); try omega)
                           refine inv_eq s3 ?_ ?_
                           · repeat (first | exact Ceq.rf | refine Ceq.lg ?_ | refine Ceq.rg ?_ | refine Ceq.lk ?_ | refine Ceq.rk ?_ | refine Ceq.lr ?_ | refine Ceq.rr ?_ | refine Ceq.give ?_ (by omega) (by omega) | refine Ceq.kill ?_ (by omega) (by omega) | refine Ceq.set ?_ (by omega) (by omega) (by first | rfl | omega | exact congrArg w32 (by omega)))
                           · simp (disch := first | omega | (simp (disch := omega) only [jset_k, jset_j, jset_same, true_and, and_true, cKill_o, rKill_o]; omega)) only [rGive_929, rKill_929, jset_929, cGive_hi, cKill_hi, cEnter_hi, jset_row])))
          · dsimp only [jpush]
            (try simp (disch := omega) only [jset_k, jset_j, jset_same, true_and, and_true, hA, cKill_o, rKill_o] at w7)
            (try simp (disch := omega) only [jset_k, jset_j, jset_same, true_and, and_true, hA, cKill_o, rKill_o])
            first
             | (exfalso; omega)
             | (skip
                refine e_if_ne 13 16 dX12_swear_10 (by decide) (by decide) rfl (fun h => absurd h (by decide)) (fun _ => ?_)
                refine e_bipush 15 dX12_swear_13 (by decide) rfl ?_
                refine e_iret dX12_swear_15 ?_
                first
                  | (exact ⟨by omega, hI⟩)
                  | (exfalso; omega)
                  | ((try subst hM1)
                     refine ⟨by first | omega | exact congrArg tkNum (by omega), ?_⟩
                     have s1 := step_purse hI (q := M 929 (770 + pledge)) (v := w32 (M 929 (692 + M 929 (770 + pledge)) - M 929 27)) (by omega) rfl
                     have s2 := step_kill s1 (p := pledge) (n := M 929 1310) (n2 := M 929 1310) (by (try simp (disch := omega) only [jset_k, jset_j, jset_same, true_and, and_true, cKill_o, rKill_o]); try omega) (by (try simp (disch := omega) only [jset_k, jset_j, jset_same, true_and, and_true, cKill_o, rKill_o]); try omega)
                     have s3 := step_give s2 (p := pledge) (q := M 929 (770 + pledge)) (by (try simp (disch := omega) only [jset_k, jset_j, jset_same, true_and, and_true, cKill_o, rKill_o]); try omega) (by (try simp (disch := omega) only [jset_k, jset_j, jset_same, true_and, and_true, cKill_o, rKill_o]); try omega) (by (try simp (disch := omega) only [jset_k, jset_j, jset_same, true_and, and_true, cKill_o, rKill_o]); try omega)
                     refine inv_eq s3 ?_ ?_
                     · repeat (first | exact Ceq.rf | refine Ceq.lg ?_ | refine Ceq.rg ?_ | refine Ceq.lk ?_ | refine Ceq.rk ?_ | refine Ceq.lr ?_ | refine Ceq.rr ?_ | refine Ceq.give ?_ (by omega) (by omega) | refine Ceq.kill ?_ (by omega) (by omega) | refine Ceq.set ?_ (by omega) (by omega) (by first | rfl | omega | exact congrArg w32 (by omega)))
                     · simp (disch := first | omega | (simp (disch := omega) only [jset_k, jset_j, jset_same, true_and, and_true, cKill_o, rKill_o]; omega)) only [rGive_929, rKill_929, jset_929, cGive_hi, cKill_hi, cEnter_hi, jset_row]))
        · skip
          refine e_bipush 88 dX11_swear_86 (by decide) rfl ?_
          refine e_iret dX11_swear_88 ?_
          refine jCt_of mt_yX12_swear (Nat.le_of_ble_eq_true rfl) (fun X2 => ?_)
          refine e_aload_n (i := 0) 1 dX12_swear_0 rfl rfl rfl ?_
          refine e_iconst 2 dX12_swear_1 rfl ?_
          refine e_put0 (j := 0) 5 fl_12_1 dX12_swear_2 at_928 rfl rfl rfl (by decide) hI.1 rfl ?_
          refine e_aload_n (i := 0) 6 dX12_swear_5 rfl rfl rfl ?_
          refine e_iload_n (i := 1) 7 dX12_swear_6 rfl rfl rfl ?_
          refine e_callV 10 mt_yX12_isPledge mv_yX12_isPledge wd_1579 (by decide) dX12_swear_7 at_928 jc_12 rfl rfl rfl (Nat.le_of_ble_eq_true rfl) (jroom (by decide)) rfl (m_isPledge (by omega) (fun w7 => ?_) (fun w7 => ?_))
          · dsimp only [jpush]
            first
             | (exfalso; omega)
             | (skip
                refine e_if_ne 13 16 dX12_swear_10 (by decide) (by decide) rfl (fun _ => ?_) (fun h => absurd h (by decide))
                refine e_aload_n (i := 0) 17 dX12_swear_16 rfl rfl rfl ?_
                refine e_getr (j := 1) 20 fl_12_13 dX12_swear_17 at_928 rfl rfl tp_928_1 rfl ?_
                refine e_sipush 23 dX12_swear_20 (by decide) rfl ?_
                refine e_iald 24 dX12_swear_23 ar_929 (by decide) (by decide) rfl (fun r23 => ?_)
                refine e_sipush 27 dX12_swear_24 (by decide) rfl ?_
                refine e_icmp_ne 30 33 dX12_swear_27 (by omega) (by decide) (by decide) rfl (fun b27 => ?_) (fun b27 => ?_)
                · first
                   | (exfalso; omega)
                   | (skip
                      refine e_aload_n (i := 0) 34 dX12_swear_33 rfl rfl rfl ?_
                      refine e_getr (j := 1) 37 fl_12_13 dX12_swear_34 at_928 rfl rfl tp_928_1 rfl ?_
                      refine e_sipush 40 dX12_swear_37 (by decide) rfl ?_
                      refine e_iload_n (i := 1) 41 dX12_swear_40 rfl rfl rfl ?_
                      refine e_iadd 42 dX12_swear_41 rfl ?_
                      refine e_iald 43 dX12_swear_42 ar_929 (by omega) (by omega) rfl (fun r42 => ?_)
                      refine e_if_eq 46 49 dX12_swear_43 (by omega) (by decide) rfl (fun b43 => ?_) (fun b43 => ?_)
                      · first
                         | (exfalso; omega)
                         | (skip
                            refine e_aload_n (i := 0) 50 dX12_swear_49 rfl rfl rfl ?_
                            refine e_getr (j := 1) 53 fl_12_13 dX12_swear_50 at_928 rfl rfl tp_928_1 rfl ?_
                            refine e_sipush 56 dX12_swear_53 (by decide) rfl ?_
                            refine e_iload_n (i := 1) 57 dX12_swear_56 rfl rfl rfl ?_
                            refine e_iadd 58 dX12_swear_57 rfl ?_
                            refine e_iald 59 dX12_swear_58 ar_929 (by omega) (by omega) rfl (fun r58 => ?_)
                            refine e_istore_n (i := 2) (lsn := [(2, _), (0, _), (1, _)]) 60 dX12_swear_59 rfl (by decide) rfl rfl ?_
                            refine e_aload_n (i := 0) 61 dX12_swear_60 rfl rfl rfl ?_
                            refine e_getr (j := 1) 64 fl_12_13 dX12_swear_61 at_928 rfl rfl tp_928_1 rfl ?_
                            refine e_sipush 67 dX12_swear_64 (by decide) rfl ?_
                            refine e_iload_n (i := 2) 68 dX12_swear_67 rfl rfl rfl ?_
                            refine e_iadd 69 dX12_swear_68 rfl ?_
                            refine e_iald 70 dX12_swear_69 ar_929 (by omega) (by omega) rfl (fun r69 => ?_)
                            refine e_aload_n (i := 0) 71 dX12_swear_70 rfl rfl rfl ?_
                            refine e_getr (j := 1) 74 fl_12_13 dX12_swear_71 at_928 rfl rfl tp_928_1 rfl ?_
                            refine e_bipush 76 dX12_swear_74 (by decide) rfl ?_
                            refine e_iald 77 dX12_swear_76 ar_929 (by decide) (by decide) rfl (fun r76 => ?_)
                            refine e_icmp_ge 80 83 dX12_swear_77 (by omega) (by omega) (by decide) rfl (fun b77 => ?_) (fun b77 => ?_)
                            · first
                               | (exfalso; omega)
                               | (skip
                                  refine e_aload_n (i := 0) 84 dX12_swear_83 rfl rfl rfl ?_
                                  refine e_getr (j := 1) 87 fl_12_13 dX12_swear_84 at_928 rfl rfl tp_928_1 rfl ?_
                                  refine e_sipush 90 dX12_swear_87 (by decide) rfl ?_
                                  refine e_iload_n (i := 2) 91 dX12_swear_90 rfl rfl rfl ?_
                                  refine e_iadd 92 dX12_swear_91 rfl ?_
                                  refine e_dup2 93 dX12_swear_92 rfl rfl rfl ?_
                                  refine e_iald 94 dX12_swear_93 ar_929 (by omega) (by omega) rfl (fun r93 => ?_)
                                  refine e_aload_n (i := 0) 95 dX12_swear_94 rfl rfl rfl ?_
                                  refine e_getr (j := 1) 98 fl_12_13 dX12_swear_95 at_928 rfl rfl tp_928_1 rfl ?_
                                  refine e_bipush 100 dX12_swear_98 (by decide) rfl ?_
                                  refine e_iald 101 dX12_swear_100 ar_929 (by decide) (by decide) rfl (fun r100 => ?_)
                                  refine e_isub 102 dX12_swear_101 rfl ?_
                                  refine e_iastw 103 dX12_swear_102 ar_929 (by omega) (by omega) rfl ?_
                                  refine e_aload_n (i := 0) 104 dX12_swear_103 rfl rfl rfl ?_
                                  refine e_iload_n (i := 1) 105 dX12_swear_104 rfl rfl rfl ?_
                                  refine e_callV 108 mt_yX12_kills mv_yX12_kills wd_1567 (by decide) dX12_swear_105 at_928 jc_12 rfl rfl rfl (Nat.le_of_ble_eq_true rfl) (jroom (by decide)) rfl (m_kills (by omega) (by (try simp (disch := omega) only [jset_k, jset_j, jset_same, true_and, and_true]); omega) ?_)
                                  dsimp only [jpush]
                                  refine e_aload_n (i := 0) 109 dX12_swear_108 rfl rfl rfl ?_
                                  refine e_iload_n (i := 1) 110 dX12_swear_109 rfl rfl rfl ?_
                                  refine e_iload_n (i := 2) 111 dX12_swear_110 rfl rfl rfl ?_
                                  refine e_callV 114 mt_yX12_gives mv_yX12_gives wd_1524 (by decide) dX12_swear_111 at_928 jc_12 rfl rfl rfl (Nat.le_of_ble_eq_true rfl) (jroom (by decide)) rfl (m_gives (by omega) (by omega) (by omega) ?_)
                                  dsimp only [jpush]
                                  refine e_iret dX12_swear_114 ?_
                                  first
                                    | (exact ⟨by omega, hI⟩)
                                    | (exfalso; omega)
                                    | ((try subst hM1)
                                       refine ⟨by first | omega | exact congrArg tkNum (by omega), ?_⟩
                                       have s1 := step_purse hI (q := M 929 (770 + pledge)) (v := w32 (M 929 (692 + M 929 (770 + pledge)) - M 929 27)) (by omega) rfl
                                       have s2 := step_kill s1 (p := pledge) (n := M 929 1310) (n2 := M 929 1310) (by (try simp (disch := omega) only [jset_k, jset_j, jset_same, true_and, and_true, cKill_o, rKill_o]); try omega) (by (try simp (disch := omega) only [jset_k, jset_j, jset_same, true_and, and_true, cKill_o, rKill_o]); try omega)
                                       have s3 := step_give s2 (p := pledge) (q := M 929 (770 + pledge)) (by (try simp (disch := omega) only [jset_k, jset_j, jset_same, true_and, and_true, cKill_o, rKill_o]); try omega) (by (try simp (disch := omega) only [jset_k, jset_j, jset_same, true_and, and_true, cKill_o, rKill_o]); try omega) (by (try simp (disch := omega) only [jset_k, jset_j, jset_same, true_and, and_true, cKill_o, rKill_o]); try omega)
                                       refine inv_eq s3 ?_ ?_
                                       · repeat (first | exact Ceq.rf | refine Ceq.lg ?_ | refine Ceq.rg ?_ | refine Ceq.lk ?_ | refine Ceq.rk ?_ | refine Ceq.lr ?_ | refine Ceq.rr ?_ | refine Ceq.give ?_ (by omega) (by omega) | refine Ceq.kill ?_ (by omega) (by omega) | refine Ceq.set ?_ (by omega) (by omega) (by first | rfl | omega | exact congrArg w32 (by omega)))
                                       · simp (disch := first | omega | (simp (disch := omega) only [jset_k, jset_j, jset_same, true_and, and_true, cKill_o, rKill_o]; omega)) only [rGive_929, rKill_929, jset_929, cGive_hi, cKill_hi, cEnter_hi, jset_row]))
                            · first
                               | (exfalso; omega)
                               | (skip
                                  refine e_bipush 82 dX12_swear_80 (by decide) rfl ?_
                                  refine e_iret dX12_swear_82 ?_
                                  first
                                    | (exact ⟨by omega, hI⟩)
                                    | (exfalso; omega)))
                      · first
                         | (exfalso; omega)
                         | (skip
                            refine e_bipush 48 dX12_swear_46 (by decide) rfl ?_
                            refine e_iret dX12_swear_48 ?_
                            first
                              | (exact ⟨by omega, hI⟩)
                              | (exfalso; omega)))
                · first
                   | (exfalso; omega)
                   | (skip
                      refine e_bipush 32 dX12_swear_30 (by decide) rfl ?_
                      refine e_iret dX12_swear_32 ?_
                      first
                        | (exact ⟨by omega, hI⟩)
                        | (exfalso; omega)))
          · dsimp only [jpush]
            first
             | (exfalso; omega)
             | (skip
                refine e_if_ne 13 16 dX12_swear_10 (by decide) (by decide) rfl (fun h => absurd h (by decide)) (fun _ => ?_)
                refine e_bipush 15 dX12_swear_13 (by decide) rfl ?_
                refine e_iret dX12_swear_15 ?_
                first
                  | (exact ⟨by omega, hI⟩)
                  | (exfalso; omega))
      · skip
        refine e_bipush 49 dX11_swear_47 (by decide) rfl ?_
        refine e_iret dX11_swear_49 ?_
        refine jCt_of mt_yX12_swear (Nat.le_of_ble_eq_true rfl) (fun X2 => ?_)
        refine e_aload_n (i := 0) 1 dX12_swear_0 rfl rfl rfl ?_
        refine e_iconst 2 dX12_swear_1 rfl ?_
        refine e_put0 (j := 0) 5 fl_12_1 dX12_swear_2 at_928 rfl rfl rfl (by decide) hI.1 rfl ?_
        refine e_aload_n (i := 0) 6 dX12_swear_5 rfl rfl rfl ?_
        refine e_iload_n (i := 1) 7 dX12_swear_6 rfl rfl rfl ?_
        refine e_callV 10 mt_yX12_isPledge mv_yX12_isPledge wd_1579 (by decide) dX12_swear_7 at_928 jc_12 rfl rfl rfl (Nat.le_of_ble_eq_true rfl) (jroom (by decide)) rfl (m_isPledge (by omega) (fun w7 => ?_) (fun w7 => ?_))
        · dsimp only [jpush]
          first
           | (exfalso; omega)
           | (skip
              refine e_if_ne 13 16 dX12_swear_10 (by decide) (by decide) rfl (fun _ => ?_) (fun h => absurd h (by decide))
              refine e_aload_n (i := 0) 17 dX12_swear_16 rfl rfl rfl ?_
              refine e_getr (j := 1) 20 fl_12_13 dX12_swear_17 at_928 rfl rfl tp_928_1 rfl ?_
              refine e_sipush 23 dX12_swear_20 (by decide) rfl ?_
              refine e_iald 24 dX12_swear_23 ar_929 (by decide) (by decide) rfl (fun r23 => ?_)
              refine e_sipush 27 dX12_swear_24 (by decide) rfl ?_
              refine e_icmp_ne 30 33 dX12_swear_27 (by omega) (by decide) (by decide) rfl (fun b27 => ?_) (fun b27 => ?_)
              · first
                 | (exfalso; omega)
                 | (skip
                    refine e_aload_n (i := 0) 34 dX12_swear_33 rfl rfl rfl ?_
                    refine e_getr (j := 1) 37 fl_12_13 dX12_swear_34 at_928 rfl rfl tp_928_1 rfl ?_
                    refine e_sipush 40 dX12_swear_37 (by decide) rfl ?_
                    refine e_iload_n (i := 1) 41 dX12_swear_40 rfl rfl rfl ?_
                    refine e_iadd 42 dX12_swear_41 rfl ?_
                    refine e_iald 43 dX12_swear_42 ar_929 (by omega) (by omega) rfl (fun r42 => ?_)
                    refine e_if_eq 46 49 dX12_swear_43 (by omega) (by decide) rfl (fun b43 => ?_) (fun b43 => ?_)
                    · first
                       | (exfalso; omega)
                       | (skip
                          refine e_aload_n (i := 0) 50 dX12_swear_49 rfl rfl rfl ?_
                          refine e_getr (j := 1) 53 fl_12_13 dX12_swear_50 at_928 rfl rfl tp_928_1 rfl ?_
                          refine e_sipush 56 dX12_swear_53 (by decide) rfl ?_
                          refine e_iload_n (i := 1) 57 dX12_swear_56 rfl rfl rfl ?_
                          refine e_iadd 58 dX12_swear_57 rfl ?_
                          refine e_iald 59 dX12_swear_58 ar_929 (by omega) (by omega) rfl (fun r58 => ?_)
                          refine e_istore_n (i := 2) (lsn := [(2, _), (0, _), (1, _)]) 60 dX12_swear_59 rfl (by decide) rfl rfl ?_
                          refine e_aload_n (i := 0) 61 dX12_swear_60 rfl rfl rfl ?_
                          refine e_getr (j := 1) 64 fl_12_13 dX12_swear_61 at_928 rfl rfl tp_928_1 rfl ?_
                          refine e_sipush 67 dX12_swear_64 (by decide) rfl ?_
                          refine e_iload_n (i := 2) 68 dX12_swear_67 rfl rfl rfl ?_
                          refine e_iadd 69 dX12_swear_68 rfl ?_
                          refine e_iald 70 dX12_swear_69 ar_929 (by omega) (by omega) rfl (fun r69 => ?_)
                          refine e_aload_n (i := 0) 71 dX12_swear_70 rfl rfl rfl ?_
                          refine e_getr (j := 1) 74 fl_12_13 dX12_swear_71 at_928 rfl rfl tp_928_1 rfl ?_
                          refine e_bipush 76 dX12_swear_74 (by decide) rfl ?_
                          refine e_iald 77 dX12_swear_76 ar_929 (by decide) (by decide) rfl (fun r76 => ?_)
                          refine e_icmp_ge 80 83 dX12_swear_77 (by omega) (by omega) (by decide) rfl (fun b77 => ?_) (fun b77 => ?_)
                          · first
                             | (exfalso; omega)
                             | (skip
                                refine e_aload_n (i := 0) 84 dX12_swear_83 rfl rfl rfl ?_
                                refine e_getr (j := 1) 87 fl_12_13 dX12_swear_84 at_928 rfl rfl tp_928_1 rfl ?_
                                refine e_sipush 90 dX12_swear_87 (by decide) rfl ?_
                                refine e_iload_n (i := 2) 91 dX12_swear_90 rfl rfl rfl ?_
                                refine e_iadd 92 dX12_swear_91 rfl ?_
                                refine e_dup2 93 dX12_swear_92 rfl rfl rfl ?_
                                refine e_iald 94 dX12_swear_93 ar_929 (by omega) (by omega) rfl (fun r93 => ?_)
                                refine e_aload_n (i := 0) 95 dX12_swear_94 rfl rfl rfl ?_
                                refine e_getr (j := 1) 98 fl_12_13 dX12_swear_95 at_928 rfl rfl tp_928_1 rfl ?_
                                refine e_bipush 100 dX12_swear_98 (by decide) rfl ?_
                                refine e_iald 101 dX12_swear_100 ar_929 (by decide) (by decide) rfl (fun r100 => ?_)
                                refine e_isub 102 dX12_swear_101 rfl ?_
                                refine e_iastw 103 dX12_swear_102 ar_929 (by omega) (by omega) rfl ?_
                                refine e_aload_n (i := 0) 104 dX12_swear_103 rfl rfl rfl ?_
                                refine e_iload_n (i := 1) 105 dX12_swear_104 rfl rfl rfl ?_
                                refine e_callV 108 mt_yX12_kills mv_yX12_kills wd_1567 (by decide) dX12_swear_105 at_928 jc_12 rfl rfl rfl (Nat.le_of_ble_eq_true rfl) (jroom (by decide)) rfl (m_kills (by omega) (by (try simp (disch := omega) only [jset_k, jset_j, jset_same, true_and, and_true]); omega) ?_)
                                dsimp only [jpush]
                                refine e_aload_n (i := 0) 109 dX12_swear_108 rfl rfl rfl ?_
                                refine e_iload_n (i := 1) 110 dX12_swear_109 rfl rfl rfl ?_
                                refine e_iload_n (i := 2) 111 dX12_swear_110 rfl rfl rfl ?_
                                refine e_callV 114 mt_yX12_gives mv_yX12_gives wd_1524 (by decide) dX12_swear_111 at_928 jc_12 rfl rfl rfl (Nat.le_of_ble_eq_true rfl) (jroom (by decide)) rfl (m_gives (by omega) (by omega) (by omega) ?_)
                                dsimp only [jpush]
                                refine e_iret dX12_swear_114 ?_
                                first
                                  | (exact ⟨by omega, hI⟩)
                                  | (exfalso; omega)
                                  | ((try subst hM1)
                                     refine ⟨by first | omega | exact congrArg tkNum (by omega), ?_⟩
                                     have s1 := step_purse hI (q := M 929 (770 + pledge)) (v := w32 (M 929 (692 + M 929 (770 + pledge)) - M 929 27)) (by omega) rfl
                                     have s2 := step_kill s1 (p := pledge) (n := M 929 1310) (n2 := M 929 1310) (by (try simp (disch := omega) only [jset_k, jset_j, jset_same, true_and, and_true, cKill_o, rKill_o]); try omega) (by (try simp (disch := omega) only [jset_k, jset_j, jset_same, true_and, and_true, cKill_o, rKill_o]); try omega)
                                     have s3 := step_give s2 (p := pledge) (q := M 929 (770 + pledge)) (by (try simp (disch := omega) only [jset_k, jset_j, jset_same, true_and, and_true, cKill_o, rKill_o]); try omega) (by (try simp (disch := omega) only [jset_k, jset_j, jset_same, true_and, and_true, cKill_o, rKill_o]); try omega) (by (try simp (disch := omega) only [jset_k, jset_j, jset_same, true_and, and_true, cKill_o, rKill_o]); try omega)
                                     refine inv_eq s3 ?_ ?_
                                     · repeat (first | exact Ceq.rf | refine Ceq.lg ?_ | refine Ceq.rg ?_ | refine Ceq.lk ?_ | refine Ceq.rk ?_ | refine Ceq.lr ?_ | refine Ceq.rr ?_ | refine Ceq.give ?_ (by omega) (by omega) | refine Ceq.kill ?_ (by omega) (by omega) | refine Ceq.set ?_ (by omega) (by omega) (by first | rfl | omega | exact congrArg w32 (by omega)))
                                     · simp (disch := first | omega | (simp (disch := omega) only [jset_k, jset_j, jset_same, true_and, and_true, cKill_o, rKill_o]; omega)) only [rGive_929, rKill_929, jset_929, cGive_hi, cKill_hi, cEnter_hi, jset_row]))
                          · first
                             | (exfalso; omega)
                             | (skip
                                refine e_bipush 82 dX12_swear_80 (by decide) rfl ?_
                                refine e_iret dX12_swear_82 ?_
                                first
                                  | (exact ⟨by omega, hI⟩)
                                  | (exfalso; omega)))
                    · first
                       | (exfalso; omega)
                       | (skip
                          refine e_bipush 48 dX12_swear_46 (by decide) rfl ?_
                          refine e_iret dX12_swear_48 ?_
                          first
                            | (exact ⟨by omega, hI⟩)
                            | (exfalso; omega)))
              · first
                 | (exfalso; omega)
                 | (skip
                    refine e_bipush 32 dX12_swear_30 (by decide) rfl ?_
                    refine e_iret dX12_swear_32 ?_
                    first
                      | (exact ⟨by omega, hI⟩)
                      | (exfalso; omega)))
        · dsimp only [jpush]
          first
           | (exfalso; omega)
           | (skip
              refine e_if_ne 13 16 dX12_swear_10 (by decide) (by decide) rfl (fun h => absurd h (by decide)) (fun _ => ?_)
              refine e_bipush 15 dX12_swear_13 (by decide) rfl ?_
              refine e_iret dX12_swear_15 ?_
              first
                | (exact ⟨by omega, hI⟩)
                | (exfalso; omega))
    · skip
      refine e_bipush 29 dX11_swear_27 (by decide) rfl ?_
      refine e_iret dX11_swear_29 ?_
      refine jCt_of mt_yX12_swear (Nat.le_of_ble_eq_true rfl) (fun X2 => ?_)
      refine e_aload_n (i := 0) 1 dX12_swear_0 rfl rfl rfl ?_
      refine e_iconst 2 dX12_swear_1 rfl ?_
      refine e_put0 (j := 0) 5 fl_12_1 dX12_swear_2 at_928 rfl rfl rfl (by decide) hI.1 rfl ?_
      refine e_aload_n (i := 0) 6 dX12_swear_5 rfl rfl rfl ?_
      refine e_iload_n (i := 1) 7 dX12_swear_6 rfl rfl rfl ?_
      refine e_callV 10 mt_yX12_isPledge mv_yX12_isPledge wd_1579 (by decide) dX12_swear_7 at_928 jc_12 rfl rfl rfl (Nat.le_of_ble_eq_true rfl) (jroom (by decide)) rfl (m_isPledge (by omega) (fun w7 => ?_) (fun w7 => ?_))
      · dsimp only [jpush]
        first
         | (exfalso; omega)
         | (skip
            refine e_if_ne 13 16 dX12_swear_10 (by decide) (by decide) rfl (fun _ => ?_) (fun h => absurd h (by decide))
            refine e_aload_n (i := 0) 17 dX12_swear_16 rfl rfl rfl ?_
            refine e_getr (j := 1) 20 fl_12_13 dX12_swear_17 at_928 rfl rfl tp_928_1 rfl ?_
            refine e_sipush 23 dX12_swear_20 (by decide) rfl ?_
            refine e_iald 24 dX12_swear_23 ar_929 (by decide) (by decide) rfl (fun r23 => ?_)
            refine e_sipush 27 dX12_swear_24 (by decide) rfl ?_
            refine e_icmp_ne 30 33 dX12_swear_27 (by omega) (by decide) (by decide) rfl (fun b27 => ?_) (fun b27 => ?_)
            · first
               | (exfalso; omega)
               | (skip
                  refine e_aload_n (i := 0) 34 dX12_swear_33 rfl rfl rfl ?_
                  refine e_getr (j := 1) 37 fl_12_13 dX12_swear_34 at_928 rfl rfl tp_928_1 rfl ?_
                  refine e_sipush 40 dX12_swear_37 (by decide) rfl ?_
                  refine e_iload_n (i := 1) 41 dX12_swear_40 rfl rfl rfl ?_
                  refine e_iadd 42 dX12_swear_41 rfl ?_
                  refine e_iald 43 dX12_swear_42 ar_929 (by omega) (by omega) rfl (fun r42 => ?_)
                  refine e_if_eq 46 49 dX12_swear_43 (by omega) (by decide) rfl (fun b43 => ?_) (fun b43 => ?_)
                  · first
                     | (exfalso; omega)
                     | (skip
                        refine e_aload_n (i := 0) 50 dX12_swear_49 rfl rfl rfl ?_
                        refine e_getr (j := 1) 53 fl_12_13 dX12_swear_50 at_928 rfl rfl tp_928_1 rfl ?_
                        refine e_sipush 56 dX12_swear_53 (by decide) rfl ?_
                        refine e_iload_n (i := 1) 57 dX12_swear_56 rfl rfl rfl ?_
                        refine e_iadd 58 dX12_swear_57 rfl ?_
                        refine e_iald 59 dX12_swear_58 ar_929 (by omega) (by omega) rfl (fun r58 => ?_)
                        refine e_istore_n (i := 2) (lsn := [(2, _), (0, _), (1, _)]) 60 dX12_swear_59 rfl (by decide) rfl rfl ?_
                        refine e_aload_n (i := 0) 61 dX12_swear_60 rfl rfl rfl ?_
                        refine e_getr (j := 1) 64 fl_12_13 dX12_swear_61 at_928 rfl rfl tp_928_1 rfl ?_
                        refine e_sipush 67 dX12_swear_64 (by decide) rfl ?_
                        refine e_iload_n (i := 2) 68 dX12_swear_67 rfl rfl rfl ?_
                        refine e_iadd 69 dX12_swear_68 rfl ?_
                        refine e_iald 70 dX12_swear_69 ar_929 (by omega) (by omega) rfl (fun r69 => ?_)
                        refine e_aload_n (i := 0) 71 dX12_swear_70 rfl rfl rfl ?_
                        refine e_getr (j := 1) 74 fl_12_13 dX12_swear_71 at_928 rfl rfl tp_928_1 rfl ?_
                        refine e_bipush 76 dX12_swear_74 (by decide) rfl ?_
                        refine e_iald 77 dX12_swear_76 ar_929 (by decide) (by decide) rfl (fun r76 => ?_)
                        refine e_icmp_ge 80 83 dX12_swear_77 (by omega) (by omega) (by decide) rfl (fun b77 => ?_) (fun b77 => ?_)
                        · first
                           | (exfalso; omega)
                           | (skip
                              refine e_aload_n (i := 0) 84 dX12_swear_83 rfl rfl rfl ?_
                              refine e_getr (j := 1) 87 fl_12_13 dX12_swear_84 at_928 rfl rfl tp_928_1 rfl ?_
                              refine e_sipush 90 dX12_swear_87 (by decide) rfl ?_
                              refine e_iload_n (i := 2) 91 dX12_swear_90 rfl rfl rfl ?_
                              refine e_iadd 92 dX12_swear_91 rfl ?_
                              refine e_dup2 93 dX12_swear_92 rfl rfl rfl ?_
                              refine e_iald 94 dX12_swear_93 ar_929 (by omega) (by omega) rfl (fun r93 => ?_)
                              refine e_aload_n (i := 0) 95 dX12_swear_94 rfl rfl rfl ?_
                              refine e_getr (j := 1) 98 fl_12_13 dX12_swear_95 at_928 rfl rfl tp_928_1 rfl ?_
                              refine e_bipush 100 dX12_swear_98 (by decide) rfl ?_
                              refine e_iald 101 dX12_swear_100 ar_929 (by decide) (by decide) rfl (fun r100 => ?_)
                              refine e_isub 102 dX12_swear_101 rfl ?_
                              refine e_iastw 103 dX12_swear_102 ar_929 (by omega) (by omega) rfl ?_
                              refine e_aload_n (i := 0) 104 dX12_swear_103 rfl rfl rfl ?_
                              refine e_iload_n (i := 1) 105 dX12_swear_104 rfl rfl rfl ?_
                              refine e_callV 108 mt_yX12_kills mv_yX12_kills wd_1567 (by decide) dX12_swear_105 at_928 jc_12 rfl rfl rfl (Nat.le_of_ble_eq_true rfl) (jroom (by decide)) rfl (m_kills (by omega) (by (try simp (disch := omega) only [jset_k, jset_j, jset_same, true_and, and_true]); omega) ?_)
                              dsimp only [jpush]
                              refine e_aload_n (i := 0) 109 dX12_swear_108 rfl rfl rfl ?_
                              refine e_iload_n (i := 1) 110 dX12_swear_109 rfl rfl rfl ?_
                              refine e_iload_n (i := 2) 111 dX12_swear_110 rfl rfl rfl ?_
                              refine e_callV 114 mt_yX12_gives mv_yX12_gives wd_1524 (by decide) dX12_swear_111 at_928 jc_12 rfl rfl rfl (Nat.le_of_ble_eq_true rfl) (jroom (by decide)) rfl (m_gives (by omega) (by omega) (by omega) ?_)
                              dsimp only [jpush]
                              refine e_iret dX12_swear_114 ?_
                              first
                                | (exact ⟨by omega, hI⟩)
                                | (exfalso; omega)
                                | ((try subst hM1)
                                   refine ⟨by first | omega | exact congrArg tkNum (by omega), ?_⟩
                                   have s1 := step_purse hI (q := M 929 (770 + pledge)) (v := w32 (M 929 (692 + M 929 (770 + pledge)) - M 929 27)) (by omega) rfl
                                   have s2 := step_kill s1 (p := pledge) (n := M 929 1310) (n2 := M 929 1310) (by (try simp (disch := omega) only [jset_k, jset_j, jset_same, true_and, and_true, cKill_o, rKill_o]); try omega) (by (try simp (disch := omega) only [jset_k, jset_j, jset_same, true_and, and_true, cKill_o, rKill_o]); try omega)
                                   have s3 := step_give s2 (p := pledge) (q := M 929 (770 + pledge)) (by (try simp (disch := omega) only [jset_k, jset_j, jset_same, true_and, and_true, cKill_o, rKill_o]); try omega) (by (try simp (disch := omega) only [jset_k, jset_j, jset_same, true_and, and_true, cKill_o, rKill_o]); try omega) (by (try simp (disch := omega) only [jset_k, jset_j, jset_same, true_and, and_true, cKill_o, rKill_o]); try omega)
                                   refine inv_eq s3 ?_ ?_
                                   · repeat (first | exact Ceq.rf | refine Ceq.lg ?_ | refine Ceq.rg ?_ | refine Ceq.lk ?_ | refine Ceq.rk ?_ | refine Ceq.lr ?_ | refine Ceq.rr ?_ | refine Ceq.give ?_ (by omega) (by omega) | refine Ceq.kill ?_ (by omega) (by omega) | refine Ceq.set ?_ (by omega) (by omega) (by first | rfl | omega | exact congrArg w32 (by omega)))
                                   · simp (disch := first | omega | (simp (disch := omega) only [jset_k, jset_j, jset_same, true_and, and_true, cKill_o, rKill_o]; omega)) only [rGive_929, rKill_929, jset_929, cGive_hi, cKill_hi, cEnter_hi, jset_row]))
                        · first
                           | (exfalso; omega)
                           | (skip
                              refine e_bipush 82 dX12_swear_80 (by decide) rfl ?_
                              refine e_iret dX12_swear_82 ?_
                              first
                                | (exact ⟨by omega, hI⟩)
                                | (exfalso; omega)))
                  · first
                     | (exfalso; omega)
                     | (skip
                        refine e_bipush 48 dX12_swear_46 (by decide) rfl ?_
                        refine e_iret dX12_swear_48 ?_
                        first
                          | (exact ⟨by omega, hI⟩)
                          | (exfalso; omega)))
            · first
               | (exfalso; omega)
               | (skip
                  refine e_bipush 32 dX12_swear_30 (by decide) rfl ?_
                  refine e_iret dX12_swear_32 ?_
                  first
                    | (exact ⟨by omega, hI⟩)
                    | (exfalso; omega)))
      · dsimp only [jpush]
        first
         | (exfalso; omega)
         | (skip
            refine e_if_ne 13 16 dX12_swear_10 (by decide) (by decide) rfl (fun h => absurd h (by decide)) (fun _ => ?_)
            refine e_bipush 15 dX12_swear_13 (by decide) rfl ?_
            refine e_iret dX12_swear_15 ?_
            first
              | (exact ⟨by omega, hI⟩)
              | (exfalso; omega))
  · dsimp only [jpush]
    (try simp (disch := omega) only [jset_k, jset_j, jset_same, true_and, and_true, cKill_o, rKill_o])
    refine e_if_ne 11 14 dX11_swear_8 (by decide) (by decide) rfl (fun h => absurd h (by decide)) (fun _ => ?_)
    refine e_bipush 13 dX11_swear_11 (by decide) rfl ?_
    refine e_iret dX11_swear_13 ?_
    refine jCt_of mt_yX12_swear (Nat.le_of_ble_eq_true rfl) (fun X2 => ?_)
    refine e_aload_n (i := 0) 1 dX12_swear_0 rfl rfl rfl ?_
    refine e_iconst 2 dX12_swear_1 rfl ?_
    refine e_put0 (j := 0) 5 fl_12_1 dX12_swear_2 at_928 rfl rfl rfl (by decide) hI.1 rfl ?_
    refine e_aload_n (i := 0) 6 dX12_swear_5 rfl rfl rfl ?_
    refine e_iload_n (i := 1) 7 dX12_swear_6 rfl rfl rfl ?_
    refine e_callV 10 mt_yX12_isPledge mv_yX12_isPledge wd_1579 (by decide) dX12_swear_7 at_928 jc_12 rfl rfl rfl (Nat.le_of_ble_eq_true rfl) (jroom (by decide)) rfl (m_isPledge (by omega) (fun w7 => ?_) (fun w7 => ?_))
    · dsimp only [jpush]
      first
       | (exfalso; omega)
       | (skip
          refine e_if_ne 13 16 dX12_swear_10 (by decide) (by decide) rfl (fun _ => ?_) (fun h => absurd h (by decide))
          refine e_aload_n (i := 0) 17 dX12_swear_16 rfl rfl rfl ?_
          refine e_getr (j := 1) 20 fl_12_13 dX12_swear_17 at_928 rfl rfl tp_928_1 rfl ?_
          refine e_sipush 23 dX12_swear_20 (by decide) rfl ?_
          refine e_iald 24 dX12_swear_23 ar_929 (by decide) (by decide) rfl (fun r23 => ?_)
          refine e_sipush 27 dX12_swear_24 (by decide) rfl ?_
          refine e_icmp_ne 30 33 dX12_swear_27 (by omega) (by decide) (by decide) rfl (fun b27 => ?_) (fun b27 => ?_)
          · first
             | (exfalso; omega)
             | (skip
                refine e_aload_n (i := 0) 34 dX12_swear_33 rfl rfl rfl ?_
                refine e_getr (j := 1) 37 fl_12_13 dX12_swear_34 at_928 rfl rfl tp_928_1 rfl ?_
                refine e_sipush 40 dX12_swear_37 (by decide) rfl ?_
                refine e_iload_n (i := 1) 41 dX12_swear_40 rfl rfl rfl ?_
                refine e_iadd 42 dX12_swear_41 rfl ?_
                refine e_iald 43 dX12_swear_42 ar_929 (by omega) (by omega) rfl (fun r42 => ?_)
                refine e_if_eq 46 49 dX12_swear_43 (by omega) (by decide) rfl (fun b43 => ?_) (fun b43 => ?_)
                · first
                   | (exfalso; omega)
                   | (skip
                      refine e_aload_n (i := 0) 50 dX12_swear_49 rfl rfl rfl ?_
                      refine e_getr (j := 1) 53 fl_12_13 dX12_swear_50 at_928 rfl rfl tp_928_1 rfl ?_
                      refine e_sipush 56 dX12_swear_53 (by decide) rfl ?_
                      refine e_iload_n (i := 1) 57 dX12_swear_56 rfl rfl rfl ?_
                      refine e_iadd 58 dX12_swear_57 rfl ?_
                      refine e_iald 59 dX12_swear_58 ar_929 (by omega) (by omega) rfl (fun r58 => ?_)
                      refine e_istore_n (i := 2) (lsn := [(2, _), (0, _), (1, _)]) 60 dX12_swear_59 rfl (by decide) rfl rfl ?_
                      refine e_aload_n (i := 0) 61 dX12_swear_60 rfl rfl rfl ?_
                      refine e_getr (j := 1) 64 fl_12_13 dX12_swear_61 at_928 rfl rfl tp_928_1 rfl ?_
                      refine e_sipush 67 dX12_swear_64 (by decide) rfl ?_
                      refine e_iload_n (i := 2) 68 dX12_swear_67 rfl rfl rfl ?_
                      refine e_iadd 69 dX12_swear_68 rfl ?_
                      refine e_iald 70 dX12_swear_69 ar_929 (by omega) (by omega) rfl (fun r69 => ?_)
                      refine e_aload_n (i := 0) 71 dX12_swear_70 rfl rfl rfl ?_
                      refine e_getr (j := 1) 74 fl_12_13 dX12_swear_71 at_928 rfl rfl tp_928_1 rfl ?_
                      refine e_bipush 76 dX12_swear_74 (by decide) rfl ?_
                      refine e_iald 77 dX12_swear_76 ar_929 (by decide) (by decide) rfl (fun r76 => ?_)
                      refine e_icmp_ge 80 83 dX12_swear_77 (by omega) (by omega) (by decide) rfl (fun b77 => ?_) (fun b77 => ?_)
                      · first
                         | (exfalso; omega)
                         | (skip
                            refine e_aload_n (i := 0) 84 dX12_swear_83 rfl rfl rfl ?_
                            refine e_getr (j := 1) 87 fl_12_13 dX12_swear_84 at_928 rfl rfl tp_928_1 rfl ?_
                            refine e_sipush 90 dX12_swear_87 (by decide) rfl ?_
                            refine e_iload_n (i := 2) 91 dX12_swear_90 rfl rfl rfl ?_
                            refine e_iadd 92 dX12_swear_91 rfl ?_
                            refine e_dup2 93 dX12_swear_92 rfl rfl rfl ?_
                            refine e_iald 94 dX12_swear_93 ar_929 (by omega) (by omega) rfl (fun r93 => ?_)
                            refine e_aload_n (i := 0) 95 dX12_swear_94 rfl rfl rfl ?_
                            refine e_getr (j := 1) 98 fl_12_13 dX12_swear_95 at_928 rfl rfl tp_928_1 rfl ?_
                            refine e_bipush 100 dX12_swear_98 (by decide) rfl ?_
                            refine e_iald 101 dX12_swear_100 ar_929 (by decide) (by decide) rfl (fun r100 => ?_)
                            refine e_isub 102 dX12_swear_101 rfl ?_
                            refine e_iastw 103 dX12_swear_102 ar_929 (by omega) (by omega) rfl ?_
                            refine e_aload_n (i := 0) 104 dX12_swear_103 rfl rfl rfl ?_
                            refine e_iload_n (i := 1) 105 dX12_swear_104 rfl rfl rfl ?_
                            refine e_callV 108 mt_yX12_kills mv_yX12_kills wd_1567 (by decide) dX12_swear_105 at_928 jc_12 rfl rfl rfl (Nat.le_of_ble_eq_true rfl) (jroom (by decide)) rfl (m_kills (by omega) (by (try simp (disch := omega) only [jset_k, jset_j, jset_same, true_and, and_true]); omega) ?_)
                            dsimp only [jpush]
                            refine e_aload_n (i := 0) 109 dX12_swear_108 rfl rfl rfl ?_
                            refine e_iload_n (i := 1) 110 dX12_swear_109 rfl rfl rfl ?_
                            refine e_iload_n (i := 2) 111 dX12_swear_110 rfl rfl rfl ?_
                            refine e_callV 114 mt_yX12_gives mv_yX12_gives wd_1524 (by decide) dX12_swear_111 at_928 jc_12 rfl rfl rfl (Nat.le_of_ble_eq_true rfl) (jroom (by decide)) rfl (m_gives (by omega) (by omega) (by omega) ?_)
                            dsimp only [jpush]
                            refine e_iret dX12_swear_114 ?_
                            first
                              | (exact ⟨by omega, hI⟩)
                              | (exfalso; omega)
                              | ((try subst hM1)
                                 refine ⟨by first | omega | exact congrArg tkNum (by omega), ?_⟩
                                 have s1 := step_purse hI (q := M 929 (770 + pledge)) (v := w32 (M 929 (692 + M 929 (770 + pledge)) - M 929 27)) (by omega) rfl
                                 have s2 := step_kill s1 (p := pledge) (n := M 929 1310) (n2 := M 929 1310) (by (try simp (disch := omega) only [jset_k, jset_j, jset_same, true_and, and_true, cKill_o, rKill_o]); try omega) (by (try simp (disch := omega) only [jset_k, jset_j, jset_same, true_and, and_true, cKill_o, rKill_o]); try omega)
                                 have s3 := step_give s2 (p := pledge) (q := M 929 (770 + pledge)) (by (try simp (disch := omega) only [jset_k, jset_j, jset_same, true_and, and_true, cKill_o, rKill_o]); try omega) (by (try simp (disch := omega) only [jset_k, jset_j, jset_same, true_and, and_true, cKill_o, rKill_o]); try omega) (by (try simp (disch := omega) only [jset_k, jset_j, jset_same, true_and, and_true, cKill_o, rKill_o]); try omega)
                                 refine inv_eq s3 ?_ ?_
                                 · repeat (first | exact Ceq.rf | refine Ceq.lg ?_ | refine Ceq.rg ?_ | refine Ceq.lk ?_ | refine Ceq.rk ?_ | refine Ceq.lr ?_ | refine Ceq.rr ?_ | refine Ceq.give ?_ (by omega) (by omega) | refine Ceq.kill ?_ (by omega) (by omega) | refine Ceq.set ?_ (by omega) (by omega) (by first | rfl | omega | exact congrArg w32 (by omega)))
                                 · simp (disch := first | omega | (simp (disch := omega) only [jset_k, jset_j, jset_same, true_and, and_true, cKill_o, rKill_o]; omega)) only [rGive_929, rKill_929, jset_929, cGive_hi, cKill_hi, cEnter_hi, jset_row]))
                      · first
                         | (exfalso; omega)
                         | (skip
                            refine e_bipush 82 dX12_swear_80 (by decide) rfl ?_
                            refine e_iret dX12_swear_82 ?_
                            first
                              | (exact ⟨by omega, hI⟩)
                              | (exfalso; omega)))
                · first
                   | (exfalso; omega)
                   | (skip
                      refine e_bipush 48 dX12_swear_46 (by decide) rfl ?_
                      refine e_iret dX12_swear_48 ?_
                      first
                        | (exact ⟨by omega, hI⟩)
                        | (exfalso; omega)))
          · first
             | (exfalso; omega)
             | (skip
                refine e_bipush 32 dX12_swear_30 (by decide) rfl ?_
                refine e_iret dX12_swear_32 ?_
                first
                  | (exact ⟨by omega, hI⟩)
                  | (exfalso; omega)))
    · dsimp only [jpush]
      first
       | (exfalso; omega)
       | (skip
          refine e_if_ne 13 16 dX12_swear_10 (by decide) (by decide) rfl (fun h => absurd h (by decide)) (fun _ => ?_)
          refine e_bipush 15 dX12_swear_13 (by decide) rfl ?_
          refine e_iret dX12_swear_15 ?_
          first
            | (exact ⟨by omega, hI⟩)
            | (exfalso; omega))

