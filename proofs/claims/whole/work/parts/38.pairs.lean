/-! PAIRS: fetch -/
theorem p_fetch {M : jM} (hI : Inv M) {number : Int} (hnumber : -2147483648 ≤ number ∧ number ≤ 2147483647) : jCt yX11_fetch cX11_fetch 7 (some .int) 6 [jR 0, jI number] M (fun z M1 => jCt yX12_fetch cX12_fetch 5 (some .int) 4 [jR 928, jI number] M1 (fun z2 M2 => z = z2 ∧ Inv M2)) := by
  have hC := hI.cr
  have hn := hC.cnt
  have hg := hC.rng
  refine jCt_of mt_yX11_fetch (Nat.le_of_ble_eq_true rfl) (fun X => ?_)
  refine e_aload_n (i := 0) 1 dX11_fetch_0 rfl rfl rfl ?_
  refine e_getr (j := 0) 4 fl_11_10 dX11_fetch_1 at_0 rfl rfl tp_0_0 rfl ?_
  refine e_iload_n (i := 1) 5 dX11_fetch_4 rfl rfl rfl ?_
  refine e_callV 8 mt_yX8_living mv_yX8_living wd_812 (by decide) dX11_fetch_5 at_1 jc_8 rfl rfl rfl (Nat.le_of_ble_eq_true rfl) (jroom (by decide)) rfl (c_living (by (try simp (disch := omega) only [jset_k, jset_j, jset_same, true_and, and_true, cKill_o, rKill_o, cEnter, cLeave_1, cLeave_2, rLeave, iOf_set]); omega) hC (fun w5 => ?_) (fun w5 => ?_))
  · dsimp only [jpush]
    (try simp (disch := omega) only [jset_k, jset_j, jset_same, true_and, and_true, cKill_o, rKill_o, cEnter, cLeave_1, cLeave_2, rLeave, iOf_set])
    refine e_istore_n (i := 2) (lsn := [(2, _), (0, _), (1, _)]) 9 dX11_fetch_8 rfl (by decide) rfl rfl ?_
    refine e_iload_n (i := 2) 10 dX11_fetch_9 rfl rfl rfl ?_
    refine e_iconst 11 dX11_fetch_10 rfl ?_
    refine e_icmp_ne 14 17 dX11_fetch_11 (by omega) (by decide) (by decide) rfl (fun b11 => ?_) (fun b11 => ?_)
    · skip
      have ht := hC.tk (t := number / 100 - 1) (by omega) (by omega)
      have hpr := hC.plr (p := M 929 (1311 + (number / 100 - 1))) ht.2.1.1 ht.2.1.2
      have hp := hC.pl (p := M 929 (1311 + (number / 100 - 1))) ht.2.1.1 ht.2.1.2
      have hq := hC.pers ht.2.2.1.1 ht.2.2.1.2
      have hu := hC.rule
      have e0 : M (68 + M (144 + (number / 100 - 1)) 1) 3 = M 929 (692 + M 929 (1461 + (number / 100 - 1))) := by rw [ht.1.2.1]; exact hq.1.2.2.2.1
      have e1 : M (84 + M (144 + (number / 100 - 1)) 0) 2 = M 929 (830 + M 929 (1311 + (number / 100 - 1))) := by rw [ht.1.1]; exact hp.1.2.2.1
      have e7 : M (84 + M (144 + (number / 100 - 1)) 0) 7 = M 929 (1070 + M 929 (1311 + (number / 100 - 1))) := by rw [ht.1.1]; exact hp.1.2.2.2.2.2.2.2
      have hio : iOf M (M (144 + (number / 100 - 1)) 0) = rI (M 929) (M 929 (1311 + (number / 100 - 1))) := by rw [ht.1.1]; exact hC.iOf ht.2.1.1 ht.2.1.2
      have hir := iOf_rng (hC.pOk (p := M (144 + (number / 100 - 1)) 0) (by omega) (by omega))
      have e11 : M (84 + M (144 + (number / 100 - 1)) 0) 11 = M 929 (3775 + M 929 (1311 + (number / 100 - 1))) := by rw [ht.1.1]; exact hp.2.2.2.2.1
      have e12 : M (84 + M (144 + (number / 100 - 1)) 0) 12 = M 929 (3835 + M 929 (1311 + (number / 100 - 1))) := by rw [ht.1.1]; exact hp.2.2.2.2.2
      have hb := hC.bk (w := M 929 708) (by omega) (by omega)
      have q1 : M (32 + 1) (M 1 4) = M 929 (2083 + M 929 708) := by rw [hn.2.2.2.2.2.2.1]; exact hb.2.1
      have q3 : M (32 + 3) (M 1 4) = M 929 (2685 + M 929 708) := by rw [hn.2.2.2.2.2.2.1]; exact hb.2.2.2.1
      have q5 : M (32 + 5) (M 1 4) = M 929 (3287 + M 929 708) := by rw [hn.2.2.2.2.2.2.1]; exact hb.2.2.2.2.2
      refine e_aload_n (i := 0) 18 dX11_fetch_17 rfl rfl rfl ?_
      refine e_getr (j := 0) 21 fl_11_10 dX11_fetch_18 at_0 rfl rfl tp_0_0 rfl ?_
      refine e_getr (j := 11) 24 fl_11_188 dX11_fetch_21 at_1 rfl rfl tp_1_11 rfl ?_
      refine e_iload_n (i := 2) 25 dX11_fetch_24 rfl rfl rfl ?_
      refine e_aald 26 dX11_fetch_25 ar_19 (by decide) (by omega) (by omega) (tp_ticket (by omega) (by omega)) rfl ?_
      refine e_astore_n (i := 3) (lsn := [(3, _), (2, _), (0, _), (1, _)]) 27 dX11_fetch_26 rfl (by decide) rfl rfl ?_
      refine e_aload_n (i := 0) 28 dX11_fetch_27 rfl rfl rfl ?_
      refine e_getr (j := 0) 31 fl_11_10 dX11_fetch_28 at_0 rfl rfl tp_0_0 rfl ?_
      refine e_getr (j := 9) 34 fl_11_200 dX11_fetch_31 at_1 rfl rfl tp_1_9 rfl ?_
      refine e_aload_n (i := 3) 35 dX11_fetch_34 rfl rfl rfl ?_
      refine e_geti (j := 0) 38 fl_11_192 dX11_fetch_35 (at_ticket (by omega) (by omega)) (by decide) rfl rfl (fun r35 => ?_)
      refine e_aald 39 dX11_fetch_38 ar_18 (by decide) (by omega) (by omega) (tp_pledge (by omega) (by omega)) rfl ?_
      refine e_astore (lsn := [(4, _), (3, _), (2, _), (0, _), (1, _)]) 41 dX11_fetch_39 (by decide) rfl rfl ?_
      refine e_aload_n (i := 0) 42 dX11_fetch_41 rfl rfl rfl ?_
      refine e_getr (j := 0) 45 fl_11_10 dX11_fetch_42 at_0 rfl rfl tp_0_0 rfl ?_
      refine e_aload 47 dX11_fetch_45 rfl rfl ?_
      refine e_callV 50 mt_yX8_isHeld mv_yX8_isHeld wd_831 (by decide) dX11_fetch_47 at_1 jc_8 rfl rfl rfl (Nat.le_of_ble_eq_true rfl) (jroom (by decide)) rfl (c_isHeld (by (try simp (disch := omega) only [jset_k, jset_j, jset_same, true_and, and_true, cKill_o, rKill_o, cEnter, cLeave_1, cLeave_2, rLeave, iOf_set]); omega) (fun w47 => ?_) (fun w47 => ?_))
      · dsimp only [jpush]
        (try simp (disch := omega) only [jset_k, jset_j, jset_same, true_and, and_true, cKill_o, rKill_o, cEnter, cLeave_1, cLeave_2, rLeave, iOf_set])
        refine e_if_eq 53 56 dX11_fetch_50 (by decide) (by decide) rfl (fun h => absurd h (by decide)) (fun _ => ?_)
        refine e_bipush 55 dX11_fetch_53 (by decide) rfl ?_
        refine e_iret dX11_fetch_55 ?_
        refine jCt_of mt_yX12_fetch (Nat.le_of_ble_eq_true rfl) (fun X2 => ?_)
        refine e_aload_n (i := 0) 1 dX12_fetch_0 rfl rfl rfl ?_
        refine e_iconst 2 dX12_fetch_1 rfl ?_
        refine e_put0 (j := 0) 5 fl_12_1 dX12_fetch_2 at_928 rfl rfl rfl (by decide) hI.1 rfl ?_
        refine e_aload_n (i := 0) 6 dX12_fetch_5 rfl rfl rfl ?_
        refine e_iload_n (i := 1) 7 dX12_fetch_6 rfl rfl rfl ?_
        refine e_callV 10 mt_yX12_stateOf mv_yX12_stateOf wd_1535 (by decide) dX12_fetch_7 at_928 jc_12 rfl rfl rfl (Nat.le_of_ble_eq_true rfl) (jroom (by decide)) rfl (m_stateOf (by omega) hg.2.2.2.1 (fun t a b => (hC.tk a b).2.2.2.1) (fun w7 => ?_) (fun w7 => ?_) (fun w7 => ?_) (fun w7 => ?_))
        · (exfalso; (try simp only [tkBad, tkGood] at *); omega)
        · (exfalso; (try simp only [tkBad, tkGood] at *); omega)
        · (exfalso; (try simp only [tkBad, tkGood] at *); omega)
        · dsimp only [jpush]
          first
           | (exfalso; omega)
           | (skip
              refine e_if_eq 13 16 dX12_fetch_10 (by decide) (by decide) rfl (fun _ => ?_) (fun h => absurd h (by decide))
              refine e_iload_n (i := 1) 17 dX12_fetch_16 rfl rfl rfl ?_
              refine e_bipush 19 dX12_fetch_17 (by decide) rfl ?_
              have hg2 := w7.1
              unfold tkGood at hg2
              have ed : number.tdiv 100 = number / 100 := Int.tdiv_eq_ediv_of_nonneg (by omega)
              refine e_idiv 20 dX12_fetch_19 (by omega) (by decide) (by decide) rfl ?_
              refine e_iconst 21 dX12_fetch_20 rfl ?_
              refine e_isub 22 dX12_fetch_21 rfl ?_
              rw [ed]
              refine e_istore_n (i := 2) (lsn := [(2, _), (0, _), (1, _)]) 23 dX12_fetch_22 rfl (by decide) rfl rfl ?_
              refine e_aload_n (i := 0) 24 dX12_fetch_23 rfl rfl rfl ?_
              refine e_getr (j := 1) 27 fl_12_13 dX12_fetch_24 at_928 rfl rfl tp_928_1 rfl ?_
              refine e_sipush 30 dX12_fetch_27 (by decide) rfl ?_
              refine e_iload_n (i := 2) 31 dX12_fetch_30 rfl rfl rfl ?_
              refine e_iadd 32 dX12_fetch_31 rfl ?_
              refine e_iald 33 dX12_fetch_32 ar_929 (by omega) (by omega) rfl (fun r32 => ?_)
              refine e_istore_n (i := 3) (lsn := [(3, _), (2, _), (0, _), (1, _)]) 34 dX12_fetch_33 rfl (by decide) rfl rfl ?_
              refine e_aload_n (i := 0) 35 dX12_fetch_34 rfl rfl rfl ?_
              refine e_iload_n (i := 3) 36 dX12_fetch_35 rfl rfl rfl ?_
              refine e_callV 39 mt_yX12_isHeld mv_yX12_isHeld wd_1559 (by decide) dX12_fetch_36 at_928 jc_12 rfl rfl rfl (Nat.le_of_ble_eq_true rfl) (jroom (by decide)) rfl (m_isHeld (by omega) (fun w36 => ?_) (fun w36 => ?_))
              · dsimp only [jpush]
                first
                 | (exfalso; omega)
                 | (skip
                    refine e_if_eq 42 45 dX12_fetch_39 (by decide) (by decide) rfl (fun h => absurd h (by decide)) (fun _ => ?_)
                    refine e_bipush 44 dX12_fetch_42 (by decide) rfl ?_
                    refine e_iret dX12_fetch_44 ?_
                    first
                      | (exact ⟨by omega, hI⟩)
                      | (exfalso; omega))
              · dsimp only [jpush]
                first
                 | (exfalso; omega)
                 | (skip
                    refine e_if_eq 42 45 dX12_fetch_39 (by decide) (by decide) rfl (fun _ => ?_) (fun h => absurd h (by decide))
                    refine e_aload_n (i := 0) 46 dX12_fetch_45 rfl rfl rfl ?_
                    refine e_iload_n (i := 3) 47 dX12_fetch_46 rfl rfl rfl ?_
                    refine e_callV 50 mt_yX12_dueOf mv_yX12_dueOf wd_1547 (by decide) dX12_fetch_47 at_928 jc_12 rfl rfl rfl (Nat.le_of_ble_eq_true rfl) (jroom (by decide)) rfl (m_dueOf (by first | exact hC.1.okP (by omega) (by omega) | (rw [hA]; exact hC.1.okP (by omega) (by omega))) ?_)
                    dsimp only [jpush]
                    refine e_istore (lsn := [(4, _), (3, _), (2, _), (0, _), (1, _)]) 52 dX12_fetch_50 (by decide) rfl rfl ?_
                    refine e_aload_n (i := 0) 53 dX12_fetch_52 rfl rfl rfl ?_
                    refine e_getr (j := 1) 56 fl_12_13 dX12_fetch_53 at_928 rfl rfl tp_928_1 rfl ?_
                    refine e_sipush 59 dX12_fetch_56 (by decide) rfl ?_
                    refine e_aload_n (i := 0) 60 dX12_fetch_59 rfl rfl rfl ?_
                    refine e_getr (j := 1) 63 fl_12_13 dX12_fetch_60 at_928 rfl rfl tp_928_1 rfl ?_
                    refine e_sipush 66 dX12_fetch_63 (by decide) rfl ?_
                    refine e_iload_n (i := 2) 67 dX12_fetch_66 rfl rfl rfl ?_
                    refine e_iadd 68 dX12_fetch_67 rfl ?_
                    refine e_iald 69 dX12_fetch_68 ar_929 (by omega) (by omega) rfl (fun r68 => ?_)
                    refine e_iadd 70 dX12_fetch_69 rfl ?_
                    refine e_iald 71 dX12_fetch_70 ar_929 (by omega) (by omega) rfl (fun r70 => ?_)
                    refine e_iload 73 dX12_fetch_71 rfl rfl ?_
                    refine e_icmp_ge 76 79 dX12_fetch_73 (by omega) (by omega) (by decide) rfl (fun b73 => ?_) (fun b73 => ?_)
                    · first
                       | (exfalso; omega)
                       | (skip
                          refine e_aload_n (i := 0) 80 dX12_fetch_79 rfl rfl rfl ?_
                          refine e_getr (j := 1) 83 fl_12_13 dX12_fetch_80 at_928 rfl rfl tp_928_1 rfl ?_
                          refine e_sipush 86 dX12_fetch_83 (by decide) rfl ?_
                          refine e_aload_n (i := 0) 87 dX12_fetch_86 rfl rfl rfl ?_
                          refine e_getr (j := 1) 90 fl_12_13 dX12_fetch_87 at_928 rfl rfl tp_928_1 rfl ?_
                          refine e_sipush 93 dX12_fetch_90 (by decide) rfl ?_
                          refine e_iload_n (i := 2) 94 dX12_fetch_93 rfl rfl rfl ?_
                          refine e_iadd 95 dX12_fetch_94 rfl ?_
                          refine e_iald 96 dX12_fetch_95 ar_929 (by omega) (by omega) rfl (fun r95 => ?_)
                          refine e_iadd 97 dX12_fetch_96 rfl ?_
                          refine e_dup2 98 dX12_fetch_97 rfl rfl rfl ?_
                          refine e_iald 99 dX12_fetch_98 ar_929 (by omega) (by omega) rfl (fun r98 => ?_)
                          refine e_iload 101 dX12_fetch_99 rfl rfl ?_
                          refine e_isub 102 dX12_fetch_101 rfl ?_
                          refine e_iastw 103 dX12_fetch_102 ar_929 (by omega) (by omega) rfl ?_
                          refine e_aload_n (i := 0) 104 dX12_fetch_103 rfl rfl rfl ?_
                          refine e_getr (j := 1) 107 fl_12_13 dX12_fetch_104 at_928 rfl rfl tp_928_1 rfl ?_
                          refine e_sipush 110 dX12_fetch_107 (by decide) rfl ?_
                          refine e_aload_n (i := 0) 111 dX12_fetch_110 rfl rfl rfl ?_
                          refine e_getr (j := 1) 114 fl_12_13 dX12_fetch_111 at_928 rfl rfl tp_928_1 rfl ?_
                          refine e_sipush 117 dX12_fetch_114 (by decide) rfl ?_
                          refine e_iald 118 dX12_fetch_117 ar_929 (by decide) (by decide) rfl (fun r117 => ?_)
                          simp (disch := omega) only [jset_k, jset_j, jset_same, true_and, and_true] at r117 ⊢
                          refine e_iadd 119 dX12_fetch_118 rfl ?_
                          refine e_dup2 120 dX12_fetch_119 rfl rfl rfl ?_
                          refine e_iald 121 dX12_fetch_120 ar_929 (by omega) (by omega) rfl (fun r120 => ?_)
                          simp (disch := omega) only [jset_k, jset_j, jset_same, true_and, and_true] at r120 ⊢
                          refine e_aload_n (i := 0) 122 dX12_fetch_121 rfl rfl rfl ?_
                          refine e_iload_n (i := 3) 123 dX12_fetch_122 rfl rfl rfl ?_
                          refine e_callV 126 mt_yX12_interestOf mv_yX12_interestOf wd_1551 (by decide) dX12_fetch_123 at_928 jc_12 rfl rfl rfl (Nat.le_of_ble_eq_true rfl) (jroom (by decide)) rfl (m_interestOf (rOkP_set (by rw [hA]; exact hC.1.okP (by omega) (by omega)) (by omega)) ?_)
                          dsimp only [jpush]
                          (try rw [rI_set hO1 (by omega) (by omega), hA])
                          refine e_iadd 127 dX12_fetch_126 rfl ?_
                          refine e_iastw 128 dX12_fetch_127 ar_929 (by omega) (by omega) rfl ?_
                          refine e_aload_n (i := 0) 129 dX12_fetch_128 rfl rfl rfl ?_
                          refine e_getr (j := 1) 132 fl_12_13 dX12_fetch_129 at_928 rfl rfl tp_928_1 rfl ?_
                          refine e_sipush 135 dX12_fetch_132 (by decide) rfl ?_
                          refine e_aload_n (i := 0) 136 dX12_fetch_135 rfl rfl rfl ?_
                          refine e_getr (j := 1) 139 fl_12_13 dX12_fetch_136 at_928 rfl rfl tp_928_1 rfl ?_
                          refine e_sipush 142 dX12_fetch_139 (by decide) rfl ?_
                          refine e_iald 143 dX12_fetch_142 ar_929 (by decide) (by decide) rfl (fun r142 => ?_)
                          simp (disch := omega) only [jset_k, jset_j, jset_same, true_and, and_true] at r142 ⊢
                          refine e_iadd 144 dX12_fetch_143 rfl ?_
                          refine e_dup2 145 dX12_fetch_144 rfl rfl rfl ?_
                          refine e_iald 146 dX12_fetch_145 ar_929 (by omega) (by omega) rfl (fun r145 => ?_)
                          simp (disch := omega) only [jset_k, jset_j, jset_same, true_and, and_true] at r145 ⊢
                          refine e_iconst 147 dX12_fetch_146 rfl ?_
                          refine e_iadd 148 dX12_fetch_147 rfl ?_
                          refine e_iastw 149 dX12_fetch_148 ar_929 (by omega) (by omega) rfl ?_
                          refine e_aload_n (i := 0) 150 dX12_fetch_149 rfl rfl rfl ?_
                          refine e_getr (j := 1) 153 fl_12_13 dX12_fetch_150 at_928 rfl rfl tp_928_1 rfl ?_
                          refine e_sipush 156 dX12_fetch_153 (by decide) rfl ?_
                          refine e_aload_n (i := 0) 157 dX12_fetch_156 rfl rfl rfl ?_
                          refine e_getr (j := 1) 160 fl_12_13 dX12_fetch_157 at_928 rfl rfl tp_928_1 rfl ?_
                          refine e_sipush 163 dX12_fetch_160 (by decide) rfl ?_
                          refine e_iald 164 dX12_fetch_163 ar_929 (by decide) (by decide) rfl (fun r163 => ?_)
                          simp (disch := omega) only [jset_k, jset_j, jset_same, true_and, and_true] at r163 ⊢
                          refine e_iadd 165 dX12_fetch_164 rfl ?_
                          refine e_dup2 166 dX12_fetch_165 rfl rfl rfl ?_
                          refine e_iald 167 dX12_fetch_166 ar_929 (by omega) (by omega) rfl (fun r166 => ?_)
                          simp (disch := omega) only [jset_k, jset_j, jset_same, true_and, and_true] at r166 ⊢
                          refine e_iload 169 dX12_fetch_167 rfl rfl ?_
                          refine e_iadd 170 dX12_fetch_169 rfl ?_
                          refine e_iastw 171 dX12_fetch_170 ar_929 (by omega) (by omega) rfl ?_
                          refine e_aload_n (i := 0) 172 dX12_fetch_171 rfl rfl rfl ?_
                          refine e_iload_n (i := 3) 173 dX12_fetch_172 rfl rfl rfl ?_
                          refine e_iconst 174 dX12_fetch_173 rfl ?_
                          refine e_callV 177 mt_yX12_leaves mv_yX12_leaves wd_1563 (by decide) dX12_fetch_174 at_928 jc_12 rfl rfl rfl (Nat.le_of_ble_eq_true rfl) (jroom (by decide)) rfl (m_leaves (by omega) (by decide) (by (try simp (disch := omega) only [jset_k, jset_j, jset_same, true_and, and_true, hA, rKill_o]); omega) ?_)
                          dsimp only [jpush]
                          refine e_iload 179 dX12_fetch_177 rfl rfl ?_
                          refine e_iret dX12_fetch_179 ?_
                          first
                            | (exact ⟨by omega, hI⟩)
                            | (exfalso; omega)
                            | ((try subst hM1)
                               refine ⟨by first | omega | exact congrArg tkNum (by omega), ?_⟩
                               have s1 := step_purse hI (q := M 929 (1461 + (number / 100 - 1))) (v := w32 (M 929 (692 + M 929 (1461 + (number / 100 - 1))) - (2 * M 929 (830 + M 929 (1311 + (number / 100 - 1))) + rI (M 929) (M 929 (1311 + (number / 100 - 1)))))) (by omega) rfl
                               have s2 := step_book2 s1 (b := 1) (w := M 929 708) (o := 2083) (v := w32 (M 929 (2083 + M 929 708) + rI (M 929) (M 929 (1311 + (number / 100 - 1))))) (by omega) (by omega) (by omega) rfl
                               have s3 := step_book2 s2 (b := 3) (w := M 929 708) (o := 2685) (v := w32 (M 929 (2685 + M 929 708) + 1)) (by omega) (by omega) (by omega) rfl
                               have s4 := step_book2 s3 (b := 5) (w := M 929 708) (o := 3287) (v := w32 (M 929 (3287 + M 929 708) + (2 * M 929 (830 + M 929 (1311 + (number / 100 - 1))) + rI (M 929) (M 929 (1311 + (number / 100 - 1)))))) (by omega) (by omega) (by omega) rfl
                               have s5 := step_left1 s4 (p := M 929 (1311 + (number / 100 - 1))) (by (try simp (disch := omega) only [jset_k, jset_j, jset_same, true_and, and_true, cKill_o, rKill_o]); try omega)
                               simp (disch := omega) only [jset_k (k' := 929) (j' := 708), jset_j (j' := 708)] at s5
                               have s6 := step_kill s5 (p := M 929 (1311 + (number / 100 - 1))) (n := M 929 1310) (n2 := M 929 1310) (by (try simp (disch := omega) only [jset_k, jset_j, jset_same, true_and, and_true, cKill_o, rKill_o]); try omega) (by (try simp (disch := omega) only [jset_k, jset_j, jset_same, true_and, and_true, cKill_o, rKill_o]); try omega)
                               refine inv_eq s6 ?_ ?_
                               · repeat (first | exact Ceq.rf | refine Ceq.lg ?_ | refine Ceq.rg ?_ | refine Ceq.lk ?_ | refine Ceq.rk ?_ | refine Ceq.lr ?_ | refine Ceq.rr ?_ | refine Ceq.give ?_ (by omega) (by omega) | refine Ceq.kill ?_ (by omega) (by omega) | refine Ceq.set ?_ (by omega) (by omega) (by first | rfl | omega | exact congrArg w32 (by omega)))
                               · simp (disch := first | omega | (simp (disch := omega) only [jset_k, jset_j, jset_same, true_and, and_true, cKill_o, rKill_o]; omega)) only [rGive_929, rKill_929, jset_929, cGive_hi, cKill_hi, cEnter_hi, jset_row]))
                    · first
                       | (exfalso; omega)
                       | (skip
                          refine e_bipush 78 dX12_fetch_76 (by decide) rfl ?_
                          refine e_iret dX12_fetch_78 ?_
                          first
                            | (exact ⟨by omega, hI⟩)
                            | (exfalso; omega))))
      · dsimp only [jpush]
        (try simp (disch := omega) only [jset_k, jset_j, jset_same, true_and, and_true, cKill_o, rKill_o, cEnter, cLeave_1, cLeave_2, rLeave, iOf_set])
        refine e_if_eq 53 56 dX11_fetch_50 (by decide) (by decide) rfl (fun _ => ?_) (fun h => absurd h (by decide))
        refine e_aload_n (i := 0) 57 dX11_fetch_56 rfl rfl rfl ?_
        refine e_getr (j := 0) 60 fl_11_10 dX11_fetch_57 at_0 rfl rfl tp_0_0 rfl ?_
        refine e_aload 62 dX11_fetch_60 rfl rfl ?_
        refine e_callV 65 mt_yX8_due mv_yX8_due wd_817 (by decide) dX11_fetch_62 at_1 jc_8 rfl rfl rfl (Nat.le_of_ble_eq_true rfl) (jroom (by decide)) rfl (c_due (hC.pOk (by (try simp (disch := omega) only [jset_k, jset_j, jset_same, true_and, and_true, cKill_o, rKill_o, cEnter, cLeave_1, cLeave_2, rLeave, iOf_set]); omega) (by (try simp (disch := omega) only [jset_k, jset_j, jset_same, true_and, and_true, cKill_o, rKill_o, cEnter, cLeave_1, cLeave_2, rLeave, iOf_set]); omega)) ?_)
        dsimp only [jpush]
        (try simp (disch := omega) only [jset_k, jset_j, jset_same, true_and, and_true, cKill_o, rKill_o, cEnter, cLeave_1, cLeave_2, rLeave, iOf_set])
        refine e_istore (lsn := [(5, _), (4, _), (3, _), (2, _), (0, _), (1, _)]) 67 dX11_fetch_65 (by decide) rfl rfl ?_
        refine e_aload_n (i := 0) 68 dX11_fetch_67 rfl rfl rfl ?_
        refine e_getr (j := 0) 71 fl_11_10 dX11_fetch_68 at_0 rfl rfl tp_0_0 rfl ?_
        refine e_getr (j := 7) 74 fl_11_149 dX11_fetch_71 at_1 rfl rfl tp_1_7 rfl ?_
        refine e_aload_n (i := 3) 75 dX11_fetch_74 rfl rfl rfl ?_
        refine e_geti (j := 1) 78 fl_11_197 dX11_fetch_75 (at_ticket (by omega) (by omega)) (by decide) rfl rfl (fun r75 => ?_)
        refine e_aald 79 dX11_fetch_78 ar_17 (by decide) (by omega) (by omega) (tp_person (by omega) (by omega)) rfl ?_
        refine e_astore (lsn := [(6, _), (5, _), (4, _), (3, _), (2, _), (0, _), (1, _)]) 81 dX11_fetch_79 (by decide) rfl rfl ?_
        refine e_aload 83 dX11_fetch_81 rfl rfl ?_
        refine e_geti (j := 3) 86 fl_11_164 dX11_fetch_83 (at_person (by omega) (by omega)) (by decide) rfl rfl (fun r83 => ?_)
        refine e_iload 88 dX11_fetch_86 rfl rfl ?_
        refine e_icmp_ge 91 94 dX11_fetch_88 (by omega) (by omega) (by decide) rfl (fun b88 => ?_) (fun b88 => ?_)
        · skip
          refine e_aload 96 dX11_fetch_94 rfl rfl ?_
          refine e_dup 97 dX11_fetch_96 rfl rfl ?_
          refine e_geti (j := 3) 100 fl_11_164 dX11_fetch_97 (at_person (by omega) (by omega)) (by decide) rfl rfl (fun r97 => ?_)
          refine e_iload 102 dX11_fetch_100 rfl rfl ?_
          refine e_isub 103 dX11_fetch_102 rfl ?_
          refine e_putw (j := 3) 106 fl_11_164 dX11_fetch_103 (at_person (by omega) (by omega)) rfl rfl rfl rfl ?_
          refine e_aload_n (i := 0) 107 dX11_fetch_106 rfl rfl rfl ?_
          refine e_getr (j := 0) 110 fl_11_10 dX11_fetch_107 at_0 rfl rfl tp_0_0 rfl ?_
          refine e_iconst 111 dX11_fetch_110 rfl ?_
          refine e_aload_n (i := 0) 112 dX11_fetch_111 rfl rfl rfl ?_
          refine e_getr (j := 0) 115 fl_11_10 dX11_fetch_112 at_0 rfl rfl tp_0_0 rfl ?_
          refine e_aload 117 dX11_fetch_115 rfl rfl ?_
          refine e_callV 120 mt_yX8_interestOf mv_yX8_interestOf wd_835 (by decide) dX11_fetch_117 at_1 jc_8 rfl rfl rfl (Nat.le_of_ble_eq_true rfl) (jroom (by decide)) rfl (c_interestOf (pOk_set (hC.pOk (by (try simp (disch := omega) only [jset_k, jset_j, jset_same, true_and, and_true, cKill_o, rKill_o, cEnter, cLeave_1, cLeave_2, rLeave, iOf_set]); omega) (by (try simp (disch := omega) only [jset_k, jset_j, jset_same, true_and, and_true, cKill_o, rKill_o, cEnter, cLeave_1, cLeave_2, rLeave, iOf_set]); omega)) (by (try simp (disch := omega) only [jset_k, jset_j, jset_same, true_and, and_true, cKill_o, rKill_o, cEnter, cLeave_1, cLeave_2, rLeave, iOf_set]); omega)) ?_)
          dsimp only [jpush]
          (try simp (disch := omega) only [jset_k, jset_j, jset_same, true_and, and_true, cKill_o, rKill_o, cEnter, cLeave_1, cLeave_2, rLeave, iOf_set])
          refine e_callV 123 mt_yX8_enter mv_yX8_enter wd_836 (by decide) dX11_fetch_120 at_1 jc_8 rfl rfl rfl (Nat.le_of_ble_eq_true rfl) (jroom (by decide)) rfl (c_enter (by decide) (by (try simp (disch := omega) only [jset_k, jset_j, jset_same, true_and, and_true, cKill_o, rKill_o, cEnter, cLeave_1, cLeave_2, rLeave, iOf_set]); omega) ?_)
          dsimp only [jpush]
          (try simp (disch := omega) only [jset_k, jset_j, jset_same, true_and, and_true, cKill_o, rKill_o, cEnter, cLeave_1, cLeave_2, rLeave, iOf_set])
          refine e_aload_n (i := 0) 124 dX11_fetch_123 rfl rfl rfl ?_
          refine e_getr (j := 0) 127 fl_11_10 dX11_fetch_124 at_0 rfl rfl tp_0_0 rfl ?_
          refine e_iconst 128 dX11_fetch_127 rfl ?_
          refine e_iconst 129 dX11_fetch_128 rfl ?_
          refine e_callV 132 mt_yX8_enter mv_yX8_enter wd_836 (by decide) dX11_fetch_129 at_1 jc_8 rfl rfl rfl (Nat.le_of_ble_eq_true rfl) (jroom (by decide)) rfl (c_enter (by decide) (by (try simp (disch := omega) only [jset_k, jset_j, jset_same, true_and, and_true, cKill_o, rKill_o, cEnter, cLeave_1, cLeave_2, rLeave, iOf_set]); omega) ?_)
          dsimp only [jpush]
          (try simp (disch := omega) only [jset_k, jset_j, jset_same, true_and, and_true, cKill_o, rKill_o, cEnter, cLeave_1, cLeave_2, rLeave, iOf_set])
          refine e_aload_n (i := 0) 133 dX11_fetch_132 rfl rfl rfl ?_
          refine e_getr (j := 0) 136 fl_11_10 dX11_fetch_133 at_0 rfl rfl tp_0_0 rfl ?_
          refine e_iconst 137 dX11_fetch_136 rfl ?_
          refine e_iload 139 dX11_fetch_137 rfl rfl ?_
          refine e_callV 142 mt_yX8_enter mv_yX8_enter wd_836 (by decide) dX11_fetch_139 at_1 jc_8 rfl rfl rfl (Nat.le_of_ble_eq_true rfl) (jroom (by decide)) rfl (c_enter (by decide) (by (try simp (disch := omega) only [jset_k, jset_j, jset_same, true_and, and_true, cKill_o, rKill_o, cEnter, cLeave_1, cLeave_2, rLeave, iOf_set]); omega) ?_)
          dsimp only [jpush]
          (try simp (disch := omega) only [jset_k, jset_j, jset_same, true_and, and_true, cKill_o, rKill_o, cEnter, cLeave_1, cLeave_2, rLeave, iOf_set])
          refine e_aload_n (i := 0) 143 dX11_fetch_142 rfl rfl rfl ?_
          refine e_getr (j := 0) 146 fl_11_10 dX11_fetch_143 at_0 rfl rfl tp_0_0 rfl ?_
          refine e_aload_n (i := 3) 147 dX11_fetch_146 rfl rfl rfl ?_
          refine e_geti (j := 0) 150 fl_11_192 dX11_fetch_147 (at_ticket (by omega) (by omega)) (by decide) rfl rfl (fun r147 => ?_)
          simp (disch := omega) only [jset_k, jset_j, jset_same, true_and, and_true, cKill_o, rKill_o, cEnter, cLeave_1, cLeave_2, rLeave, iOf_set] at r147 ⊢
          refine e_iconst 151 dX11_fetch_150 rfl ?_
          refine e_callV 154 mt_yX8_leave mv_yX8_leave wd_837 (by decide) dX11_fetch_151 at_1 jc_8 rfl rfl rfl (Nat.le_of_ble_eq_true rfl) (jroom (by decide)) rfl (c_leave (by (try simp (disch := omega) only [jset_k, jset_j, jset_same, true_and, and_true, cKill_o, rKill_o, cEnter, cLeave_1, cLeave_2, rLeave, iOf_set]); omega) (by decide) (by (try simp (disch := omega) only [jset_k, jset_j, jset_same, true_and, and_true, cKill_o]); omega) ?_)
          dsimp only [jpush]
          (try simp (disch := omega) only [jset_k, jset_j, jset_same, true_and, and_true, cKill_o, rKill_o, cEnter, cLeave_1, cLeave_2, rLeave, iOf_set])
          refine e_iload 156 dX11_fetch_154 rfl rfl ?_
          refine e_iret dX11_fetch_156 ?_
          refine mem_gen (P := fun M1 => jCt yX12_fetch cX12_fetch 5 (some .int) 4 [jR 928, jI number] M1 (fun z2 M2 => _ = z2 ∧ Inv M2)) (fun M1 hM1 => ?_)
          have hA : M1 929 = M 929 := by rw [hM1]; simp (disch := first | omega | (simp (disch := omega) only [jset_k, jset_j, jset_same, true_and, and_true, cKill_o, rKill_o]; omega)) only [rGive_929, rKill_929, jset_929, cGive_hi, cKill_hi, cEnter_hi, jset_row]
          have hT : M1 928 0 = 0 := by rw [hM1]; simp (disch := first | omega | (simp (disch := omega) only [jset_k, jset_j, jset_same, true_and, and_true, cKill_o, rKill_o]; omega)) only [rGive_929, rKill_929, jset_929, cGive_hi, cKill_hi, cEnter_hi, jset_row]; exact hI.1
          have hO1 : RLaw (M1 929) 0 := by rw [hA]; exact hC.rlaw
          refine jCt_of mt_yX12_fetch (Nat.le_of_ble_eq_true rfl) (fun X2 => ?_)
          refine e_aload_n (i := 0) 1 dX12_fetch_0 rfl rfl rfl ?_
          refine e_iconst 2 dX12_fetch_1 rfl ?_
          refine e_put0 (j := 0) 5 fl_12_1 dX12_fetch_2 at_928 rfl rfl rfl (by decide) (by first | exact hT | (simp (disch := omega) only [jset_k, jset_j, jset_same, true_and, and_true, hA, cKill_o, rKill_o, cEnter, cLeave_1, cLeave_2, rLeave, iOf_set]; exact hT)) rfl ?_
          refine e_aload_n (i := 0) 6 dX12_fetch_5 rfl rfl rfl ?_
          refine e_iload_n (i := 1) 7 dX12_fetch_6 rfl rfl rfl ?_
          refine e_callV 10 mt_yX12_stateOf mv_yX12_stateOf wd_1535 (by decide) dX12_fetch_7 at_928 jc_12 rfl rfl rfl (Nat.le_of_ble_eq_true rfl) (jroom (by decide)) rfl (m_stateOf (by (try simp (disch := omega) only [jset_k, jset_j, jset_same, true_and, and_true, hA, cKill_o, rKill_o, cEnter, cLeave_1, cLeave_2, rLeave, iOf_set]); omega) (by simp (disch := omega) only [jset_k, jset_j, jset_same, true_and, and_true, hA, cKill_o, rKill_o, cEnter, cLeave_1, cLeave_2, rLeave, iOf_set]; exact hg.2.2.2.1) (fun t a b => by simp (disch := omega) only [jset_k, jset_j, jset_same, true_and, and_true, hA, cKill_o, rKill_o, cEnter, cLeave_1, cLeave_2, rLeave, iOf_set] at b ⊢; exact (hC.tk a b).2.2.2.1) (fun w7 => ?_) (fun w7 => ?_) (fun w7 => ?_) (fun w7 => ?_))
          · (try simp (disch := omega) only [jset_k, jset_j, jset_same, true_and, and_true, hA, cKill_o, rKill_o, cEnter, cLeave_1, cLeave_2, rLeave, iOf_set] at w7)
            (exfalso; (try simp only [tkBad, tkGood] at *); omega)
          · (try simp (disch := omega) only [jset_k, jset_j, jset_same, true_and, and_true, hA, cKill_o, rKill_o, cEnter, cLeave_1, cLeave_2, rLeave, iOf_set] at w7)
            (exfalso; (try simp only [tkBad, tkGood] at *); omega)
          · (try simp (disch := omega) only [jset_k, jset_j, jset_same, true_and, and_true, hA, cKill_o, rKill_o, cEnter, cLeave_1, cLeave_2, rLeave, iOf_set] at w7)
            (exfalso; (try simp only [tkBad, tkGood] at *); omega)
          · dsimp only [jpush]
            (try simp (disch := omega) only [jset_k, jset_j, jset_same, true_and, and_true, hA, cKill_o, rKill_o, cEnter, cLeave_1, cLeave_2, rLeave, iOf_set] at w7)
            (try simp (disch := omega) only [jset_k, jset_j, jset_same, true_and, and_true, hA, cKill_o, rKill_o, cEnter, cLeave_1, cLeave_2, rLeave, iOf_set])
            first
             | (exfalso; omega)
             | (skip
                refine e_if_eq 13 16 dX12_fetch_10 (by decide) (by decide) rfl (fun _ => ?_) (fun h => absurd h (by decide))
                refine e_iload_n (i := 1) 17 dX12_fetch_16 rfl rfl rfl ?_
                refine e_bipush 19 dX12_fetch_17 (by decide) rfl ?_
                have hg2 := w7.1
                unfold tkGood at hg2
                have ed : number.tdiv 100 = number / 100 := Int.tdiv_eq_ediv_of_nonneg (by omega)
                refine e_idiv 20 dX12_fetch_19 (by omega) (by decide) (by decide) rfl ?_
                refine e_iconst 21 dX12_fetch_20 rfl ?_
                refine e_isub 22 dX12_fetch_21 rfl ?_
                rw [ed]
                refine e_istore_n (i := 2) (lsn := [(2, _), (0, _), (1, _)]) 23 dX12_fetch_22 rfl (by decide) rfl rfl ?_
                refine e_aload_n (i := 0) 24 dX12_fetch_23 rfl rfl rfl ?_
                refine e_getr (j := 1) 27 fl_12_13 dX12_fetch_24 at_928 rfl rfl tp_928_1 rfl ?_
                refine e_sipush 30 dX12_fetch_27 (by decide) rfl ?_
                refine e_iload_n (i := 2) 31 dX12_fetch_30 rfl rfl rfl ?_
                refine e_iadd 32 dX12_fetch_31 rfl ?_
                refine e_iald 33 dX12_fetch_32 ar_929 (by omega) (by omega) rfl (fun r32 => ?_)
                simp (disch := omega) only [jset_k, jset_j, jset_same, true_and, and_true, hA, cKill_o, rKill_o, cEnter, cLeave_1, cLeave_2, rLeave, iOf_set] at r32 ⊢
                refine e_istore_n (i := 3) (lsn := [(3, _), (2, _), (0, _), (1, _)]) 34 dX12_fetch_33 rfl (by decide) rfl rfl ?_
                refine e_aload_n (i := 0) 35 dX12_fetch_34 rfl rfl rfl ?_
                refine e_iload_n (i := 3) 36 dX12_fetch_35 rfl rfl rfl ?_
                refine e_callV 39 mt_yX12_isHeld mv_yX12_isHeld wd_1559 (by decide) dX12_fetch_36 at_928 jc_12 rfl rfl rfl (Nat.le_of_ble_eq_true rfl) (jroom (by decide)) rfl (m_isHeld (by (try simp (disch := omega) only [jset_k, jset_j, jset_same, true_and, and_true, hA, cKill_o, rKill_o, cEnter, cLeave_1, cLeave_2, rLeave, iOf_set]); omega) (fun w36 => ?_) (fun w36 => ?_))
                · dsimp only [jpush]
                  (try simp (disch := omega) only [jset_k, jset_j, jset_same, true_and, and_true, hA, cKill_o, rKill_o, cEnter, cLeave_1, cLeave_2, rLeave, iOf_set] at w36)
                  (try simp (disch := omega) only [jset_k, jset_j, jset_same, true_and, and_true, hA, cKill_o, rKill_o, cEnter, cLeave_1, cLeave_2, rLeave, iOf_set])
                  first
                   | (exfalso; omega)
                   | (skip
                      refine e_if_eq 42 45 dX12_fetch_39 (by decide) (by decide) rfl (fun h => absurd h (by decide)) (fun _ => ?_)
                      refine e_bipush 44 dX12_fetch_42 (by decide) rfl ?_
                      refine e_iret dX12_fetch_44 ?_
                      first
                        | (exact ⟨by omega, hI⟩)
                        | (exfalso; omega)
                        | ((try subst hM1)
                           refine ⟨by first | omega | exact congrArg tkNum (by omega), ?_⟩
                           have s1 := step_purse hI (q := M 929 (1461 + (number / 100 - 1))) (v := w32 (M 929 (692 + M 929 (1461 + (number / 100 - 1))) - (2 * M 929 (830 + M 929 (1311 + (number / 100 - 1))) + rI (M 929) (M 929 (1311 + (number / 100 - 1)))))) (by omega) rfl
                           have s2 := step_book2 s1 (b := 1) (w := M 929 708) (o := 2083) (v := w32 (M 929 (2083 + M 929 708) + rI (M 929) (M 929 (1311 + (number / 100 - 1))))) (by omega) (by omega) (by omega) rfl
                           have s3 := step_book2 s2 (b := 3) (w := M 929 708) (o := 2685) (v := w32 (M 929 (2685 + M 929 708) + 1)) (by omega) (by omega) (by omega) rfl
                           have s4 := step_book2 s3 (b := 5) (w := M 929 708) (o := 3287) (v := w32 (M 929 (3287 + M 929 708) + (2 * M 929 (830 + M 929 (1311 + (number / 100 - 1))) + rI (M 929) (M 929 (1311 + (number / 100 - 1)))))) (by omega) (by omega) (by omega) rfl
                           have s5 := step_left1 s4 (p := M 929 (1311 + (number / 100 - 1))) (by (try simp (disch := omega) only [jset_k, jset_j, jset_same, true_and, and_true, cKill_o, rKill_o]); try omega)
                           simp (disch := omega) only [jset_k (k' := 929) (j' := 708), jset_j (j' := 708)] at s5
                           have s6 := step_kill s5 (p := M 929 (1311 + (number / 100 - 1))) (n := M 929 1310) (n2 := M 929 1310) (by (try simp (disch := omega) only [jset_k, jset_j, jset_same, true_and, and_true, cKill_o, rKill_o]); try omega) (by (try simp (disch := omega) only [jset_k, jset_j, jset_same, true_and, and_true, cKill_o, rKill_o]); try omega)
                           refine inv_eq s6 ?_ ?_
                           · repeat (first | exact Ceq.rf | refine Ceq.lg ?_ | refine Ceq.rg ?_ | refine Ceq.lk ?_ | refine Ceq.rk ?_ | refine Ceq.lr ?_ | refine Ceq.rr ?_ | refine Ceq.give ?_ (by omega) (by omega) | refine Ceq.kill ?_ (by omega) (by omega) | refine Ceq.set ?_ (by omega) (by omega) (by first | rfl | omega | exact congrArg w32 (by omega)))
                           · simp (disch := first | omega | (simp (disch := omega) only [jset_k, jset_j, jset_same, true_and, and_true, cKill_o, rKill_o]; omega)) only [rGive_929, rKill_929, jset_929, cGive_hi, cKill_hi, cEnter_hi, jset_row]))
                · dsimp only [jpush]
                  (try simp (disch := omega) only [jset_k, jset_j, jset_same, true_and, and_true, hA, cKill_o, rKill_o, cEnter, cLeave_1, cLeave_2, rLeave, iOf_set] at w36)
                  (try simp (disch := omega) only [jset_k, jset_j, jset_same, true_and, and_true, hA, cKill_o, rKill_o, cEnter, cLeave_1, cLeave_2, rLeave, iOf_set])
                  first
                   | (exfalso; omega)
                   | (skip
                      refine e_if_eq 42 45 dX12_fetch_39 (by decide) (by decide) rfl (fun _ => ?_) (fun h => absurd h (by decide))
                      refine e_aload_n (i := 0) 46 dX12_fetch_45 rfl rfl rfl ?_
                      refine e_iload_n (i := 3) 47 dX12_fetch_46 rfl rfl rfl ?_
                      refine e_callV 50 mt_yX12_dueOf mv_yX12_dueOf wd_1547 (by decide) dX12_fetch_47 at_928 jc_12 rfl rfl rfl (Nat.le_of_ble_eq_true rfl) (jroom (by decide)) rfl (m_dueOf (by first | exact hC.1.okP (by (try simp (disch := omega) only [jset_k, jset_j, jset_same, true_and, and_true, hA, cKill_o, rKill_o, cEnter, cLeave_1, cLeave_2, rLeave, iOf_set]); omega) (by (try simp (disch := omega) only [jset_k, jset_j, jset_same, true_and, and_true, hA, cKill_o, rKill_o, cEnter, cLeave_1, cLeave_2, rLeave, iOf_set]); omega) | (rw [hA]; exact hC.1.okP (by (try simp (disch := omega) only [jset_k, jset_j, jset_same, true_and, and_true, hA, cKill_o, rKill_o, cEnter, cLeave_1, cLeave_2, rLeave, iOf_set]); omega) (by (try simp (disch := omega) only [jset_k, jset_j, jset_same, true_and, and_true, hA, cKill_o, rKill_o, cEnter, cLeave_1, cLeave_2, rLeave, iOf_set]); omega))) ?_)
                      dsimp only [jpush]
                      (try simp (disch := omega) only [jset_k, jset_j, jset_same, true_and, and_true, hA, cKill_o, rKill_o, cEnter, cLeave_1, cLeave_2, rLeave, iOf_set])
                      refine e_istore (lsn := [(4, _), (3, _), (2, _), (0, _), (1, _)]) 52 dX12_fetch_50 (by decide) rfl rfl ?_
                      refine e_aload_n (i := 0) 53 dX12_fetch_52 rfl rfl rfl ?_
                      refine e_getr (j := 1) 56 fl_12_13 dX12_fetch_53 at_928 rfl rfl tp_928_1 rfl ?_
                      refine e_sipush 59 dX12_fetch_56 (by decide) rfl ?_
                      refine e_aload_n (i := 0) 60 dX12_fetch_59 rfl rfl rfl ?_
                      refine e_getr (j := 1) 63 fl_12_13 dX12_fetch_60 at_928 rfl rfl tp_928_1 rfl ?_
                      refine e_sipush 66 dX12_fetch_63 (by decide) rfl ?_
                      refine e_iload_n (i := 2) 67 dX12_fetch_66 rfl rfl rfl ?_
                      refine e_iadd 68 dX12_fetch_67 rfl ?_
                      refine e_iald 69 dX12_fetch_68 ar_929 (by omega) (by omega) rfl (fun r68 => ?_)
                      simp (disch := omega) only [jset_k, jset_j, jset_same, true_and, and_true, hA, cKill_o, rKill_o, cEnter, cLeave_1, cLeave_2, rLeave, iOf_set] at r68 ⊢
                      refine e_iadd 70 dX12_fetch_69 rfl ?_
                      refine e_iald 71 dX12_fetch_70 ar_929 (by omega) (by omega) rfl (fun r70 => ?_)
                      simp (disch := omega) only [jset_k, jset_j, jset_same, true_and, and_true, hA, cKill_o, rKill_o, cEnter, cLeave_1, cLeave_2, rLeave, iOf_set] at r70 ⊢
                      refine e_iload 73 dX12_fetch_71 rfl rfl ?_
                      refine e_icmp_ge 76 79 dX12_fetch_73 (by omega) (by omega) (by decide) rfl (fun b73 => ?_) (fun b73 => ?_)
                      · first
                         | (exfalso; omega)
                         | (skip
                            refine e_aload_n (i := 0) 80 dX12_fetch_79 rfl rfl rfl ?_
                            refine e_getr (j := 1) 83 fl_12_13 dX12_fetch_80 at_928 rfl rfl tp_928_1 rfl ?_
                            refine e_sipush 86 dX12_fetch_83 (by decide) rfl ?_
                            refine e_aload_n (i := 0) 87 dX12_fetch_86 rfl rfl rfl ?_
                            refine e_getr (j := 1) 90 fl_12_13 dX12_fetch_87 at_928 rfl rfl tp_928_1 rfl ?_
                            refine e_sipush 93 dX12_fetch_90 (by decide) rfl ?_
                            refine e_iload_n (i := 2) 94 dX12_fetch_93 rfl rfl rfl ?_
                            refine e_iadd 95 dX12_fetch_94 rfl ?_
                            refine e_iald 96 dX12_fetch_95 ar_929 (by omega) (by omega) rfl (fun r95 => ?_)
                            simp (disch := omega) only [jset_k, jset_j, jset_same, true_and, and_true, hA, cKill_o, rKill_o, cEnter, cLeave_1, cLeave_2, rLeave, iOf_set] at r95 ⊢
                            refine e_iadd 97 dX12_fetch_96 rfl ?_
                            refine e_dup2 98 dX12_fetch_97 rfl rfl rfl ?_
                            refine e_iald 99 dX12_fetch_98 ar_929 (by omega) (by omega) rfl (fun r98 => ?_)
                            simp (disch := omega) only [jset_k, jset_j, jset_same, true_and, and_true, hA, cKill_o, rKill_o, cEnter, cLeave_1, cLeave_2, rLeave, iOf_set] at r98 ⊢
                            refine e_iload 101 dX12_fetch_99 rfl rfl ?_
                            refine e_isub 102 dX12_fetch_101 rfl ?_
                            refine e_iastw 103 dX12_fetch_102 ar_929 (by omega) (by omega) rfl ?_
                            refine e_aload_n (i := 0) 104 dX12_fetch_103 rfl rfl rfl ?_
                            refine e_getr (j := 1) 107 fl_12_13 dX12_fetch_104 at_928 rfl rfl tp_928_1 rfl ?_
                            refine e_sipush 110 dX12_fetch_107 (by decide) rfl ?_
                            refine e_aload_n (i := 0) 111 dX12_fetch_110 rfl rfl rfl ?_
                            refine e_getr (j := 1) 114 fl_12_13 dX12_fetch_111 at_928 rfl rfl tp_928_1 rfl ?_
                            refine e_sipush 117 dX12_fetch_114 (by decide) rfl ?_
                            refine e_iald 118 dX12_fetch_117 ar_929 (by decide) (by decide) rfl (fun r117 => ?_)
                            simp (disch := omega) only [jset_k, jset_j, jset_same, true_and, and_true, hA, cKill_o, rKill_o, cEnter, cLeave_1, cLeave_2, rLeave, iOf_set] at r117 ⊢
                            refine e_iadd 119 dX12_fetch_118 rfl ?_
                            refine e_dup2 120 dX12_fetch_119 rfl rfl rfl ?_
                            refine e_iald 121 dX12_fetch_120 ar_929 (by omega) (by omega) rfl (fun r120 => ?_)
                            simp (disch := omega) only [jset_k, jset_j, jset_same, true_and, and_true, hA, cKill_o, rKill_o, cEnter, cLeave_1, cLeave_2, rLeave, iOf_set] at r120 ⊢
                            refine e_aload_n (i := 0) 122 dX12_fetch_121 rfl rfl rfl ?_
                            refine e_iload_n (i := 3) 123 dX12_fetch_122 rfl rfl rfl ?_
                            refine e_callV 126 mt_yX12_interestOf mv_yX12_interestOf wd_1551 (by decide) dX12_fetch_123 at_928 jc_12 rfl rfl rfl (Nat.le_of_ble_eq_true rfl) (jroom (by decide)) rfl (m_interestOf (rOkP_set (by rw [hA]; exact hC.1.okP (by (try simp (disch := omega) only [jset_k, jset_j, jset_same, true_and, and_true, hA, cKill_o, rKill_o, cEnter, cLeave_1, cLeave_2, rLeave, iOf_set]); omega) (by (try simp (disch := omega) only [jset_k, jset_j, jset_same, true_and, and_true, hA, cKill_o, rKill_o, cEnter, cLeave_1, cLeave_2, rLeave, iOf_set]); omega)) (by (try simp (disch := omega) only [jset_k, jset_j, jset_same, true_and, and_true, hA, cKill_o, rKill_o, cEnter, cLeave_1, cLeave_2, rLeave, iOf_set]); omega)) ?_)
                            dsimp only [jpush]
                            (try simp (disch := omega) only [jset_k, jset_j, jset_same, true_and, and_true, hA, cKill_o, rKill_o, cEnter, cLeave_1, cLeave_2, rLeave, iOf_set])
                            (try rw [rI_set hO1 (by omega) (by omega), hA])
                            refine e_iadd 127 dX12_fetch_126 rfl ?_
                            refine e_iastw 128 dX12_fetch_127 ar_929 (by omega) (by omega) rfl ?_
                            refine e_aload_n (i := 0) 129 dX12_fetch_128 rfl rfl rfl ?_
                            refine e_getr (j := 1) 132 fl_12_13 dX12_fetch_129 at_928 rfl rfl tp_928_1 rfl ?_
                            refine e_sipush 135 dX12_fetch_132 (by decide) rfl ?_
                            refine e_aload_n (i := 0) 136 dX12_fetch_135 rfl rfl rfl ?_
                            refine e_getr (j := 1) 139 fl_12_13 dX12_fetch_136 at_928 rfl rfl tp_928_1 rfl ?_
                            refine e_sipush 142 dX12_fetch_139 (by decide) rfl ?_
                            refine e_iald 143 dX12_fetch_142 ar_929 (by decide) (by decide) rfl (fun r142 => ?_)
                            simp (disch := omega) only [jset_k, jset_j, jset_same, true_and, and_true, hA, cKill_o, rKill_o, cEnter, cLeave_1, cLeave_2, rLeave, iOf_set] at r142 ⊢
                            refine e_iadd 144 dX12_fetch_143 rfl ?_
                            refine e_dup2 145 dX12_fetch_144 rfl rfl rfl ?_
                            refine e_iald 146 dX12_fetch_145 ar_929 (by omega) (by omega) rfl (fun r145 => ?_)
                            simp (disch := omega) only [jset_k, jset_j, jset_same, true_and, and_true, hA, cKill_o, rKill_o, cEnter, cLeave_1, cLeave_2, rLeave, iOf_set] at r145 ⊢
                            refine e_iconst 147 dX12_fetch_146 rfl ?_
                            refine e_iadd 148 dX12_fetch_147 rfl ?_
                            refine e_iastw 149 dX12_fetch_148 ar_929 (by omega) (by omega) rfl ?_
                            refine e_aload_n (i := 0) 150 dX12_fetch_149 rfl rfl rfl ?_
                            refine e_getr (j := 1) 153 fl_12_13 dX12_fetch_150 at_928 rfl rfl tp_928_1 rfl ?_
                            refine e_sipush 156 dX12_fetch_153 (by decide) rfl ?_
                            refine e_aload_n (i := 0) 157 dX12_fetch_156 rfl rfl rfl ?_
                            refine e_getr (j := 1) 160 fl_12_13 dX12_fetch_157 at_928 rfl rfl tp_928_1 rfl ?_
                            refine e_sipush 163 dX12_fetch_160 (by decide) rfl ?_
                            refine e_iald 164 dX12_fetch_163 ar_929 (by decide) (by decide) rfl (fun r163 => ?_)
                            simp (disch := omega) only [jset_k, jset_j, jset_same, true_and, and_true, hA, cKill_o, rKill_o, cEnter, cLeave_1, cLeave_2, rLeave, iOf_set] at r163 ⊢
                            refine e_iadd 165 dX12_fetch_164 rfl ?_
                            refine e_dup2 166 dX12_fetch_165 rfl rfl rfl ?_
                            refine e_iald 167 dX12_fetch_166 ar_929 (by omega) (by omega) rfl (fun r166 => ?_)
                            simp (disch := omega) only [jset_k, jset_j, jset_same, true_and, and_true, hA, cKill_o, rKill_o, cEnter, cLeave_1, cLeave_2, rLeave, iOf_set] at r166 ⊢
                            refine e_iload 169 dX12_fetch_167 rfl rfl ?_
                            refine e_iadd 170 dX12_fetch_169 rfl ?_
                            refine e_iastw 171 dX12_fetch_170 ar_929 (by omega) (by omega) rfl ?_
                            refine e_aload_n (i := 0) 172 dX12_fetch_171 rfl rfl rfl ?_
                            refine e_iload_n (i := 3) 173 dX12_fetch_172 rfl rfl rfl ?_
                            refine e_iconst 174 dX12_fetch_173 rfl ?_
                            refine e_callV 177 mt_yX12_leaves mv_yX12_leaves wd_1563 (by decide) dX12_fetch_174 at_928 jc_12 rfl rfl rfl (Nat.le_of_ble_eq_true rfl) (jroom (by decide)) rfl (m_leaves (by (try simp (disch := omega) only [jset_k, jset_j, jset_same, true_and, and_true, hA, cKill_o, rKill_o, cEnter, cLeave_1, cLeave_2, rLeave, iOf_set]); omega) (by decide) (by (try simp (disch := omega) only [jset_k, jset_j, jset_same, true_and, and_true, hA, rKill_o]); omega) ?_)
                            dsimp only [jpush]
                            (try simp (disch := omega) only [jset_k, jset_j, jset_same, true_and, and_true, hA, cKill_o, rKill_o, cEnter, cLeave_1, cLeave_2, rLeave, iOf_set])
                            refine e_iload 179 dX12_fetch_177 rfl rfl ?_
                            refine e_iret dX12_fetch_179 ?_
                            first
                              | (exact ⟨by omega, hI⟩)
                              | (exfalso; omega)
                              | ((try subst hM1)
                                 refine ⟨by first | omega | exact congrArg tkNum (by omega), ?_⟩
                                 have s1 := step_purse hI (q := M 929 (1461 + (number / 100 - 1))) (v := w32 (M 929 (692 + M 929 (1461 + (number / 100 - 1))) - (2 * M 929 (830 + M 929 (1311 + (number / 100 - 1))) + rI (M 929) (M 929 (1311 + (number / 100 - 1)))))) (by omega) rfl
                                 have s2 := step_book2 s1 (b := 1) (w := M 929 708) (o := 2083) (v := w32 (M 929 (2083 + M 929 708) + rI (M 929) (M 929 (1311 + (number / 100 - 1))))) (by omega) (by omega) (by omega) rfl
                                 have s3 := step_book2 s2 (b := 3) (w := M 929 708) (o := 2685) (v := w32 (M 929 (2685 + M 929 708) + 1)) (by omega) (by omega) (by omega) rfl
                                 have s4 := step_book2 s3 (b := 5) (w := M 929 708) (o := 3287) (v := w32 (M 929 (3287 + M 929 708) + (2 * M 929 (830 + M 929 (1311 + (number / 100 - 1))) + rI (M 929) (M 929 (1311 + (number / 100 - 1)))))) (by omega) (by omega) (by omega) rfl
                                 have s5 := step_left1 s4 (p := M 929 (1311 + (number / 100 - 1))) (by (try simp (disch := omega) only [jset_k, jset_j, jset_same, true_and, and_true, cKill_o, rKill_o]); try omega)
                                 simp (disch := omega) only [jset_k (k' := 929) (j' := 708), jset_j (j' := 708)] at s5
                                 have s6 := step_kill s5 (p := M 929 (1311 + (number / 100 - 1))) (n := M 929 1310) (n2 := M 929 1310) (by (try simp (disch := omega) only [jset_k, jset_j, jset_same, true_and, and_true, cKill_o, rKill_o]); try omega) (by (try simp (disch := omega) only [jset_k, jset_j, jset_same, true_and, and_true, cKill_o, rKill_o]); try omega)
                                 refine inv_eq s6 ?_ ?_
                                 · repeat (first | exact Ceq.rf | refine Ceq.lg ?_ | refine Ceq.rg ?_ | refine Ceq.lk ?_ | refine Ceq.rk ?_ | refine Ceq.lr ?_ | refine Ceq.rr ?_ | refine Ceq.give ?_ (by omega) (by omega) | refine Ceq.kill ?_ (by omega) (by omega) | refine Ceq.set ?_ (by omega) (by omega) (by first | rfl | omega | exact congrArg w32 (by omega)))
                                 · simp (disch := first | omega | (simp (disch := omega) only [jset_k, jset_j, jset_same, true_and, and_true, cKill_o, rKill_o]; omega)) only [rGive_929, rKill_929, jset_929, cGive_hi, cKill_hi, cEnter_hi, jset_row]))
                      · first
                         | (exfalso; omega)
                         | (skip
                            refine e_bipush 78 dX12_fetch_76 (by decide) rfl ?_
                            refine e_iret dX12_fetch_78 ?_
                            first
                              | (exact ⟨by omega, hI⟩)
                              | (exfalso; omega)
                              | ((try subst hM1)
                                 refine ⟨by first | omega | exact congrArg tkNum (by omega), ?_⟩
                                 have s1 := step_purse hI (q := M 929 (1461 + (number / 100 - 1))) (v := w32 (M 929 (692 + M 929 (1461 + (number / 100 - 1))) - (2 * M 929 (830 + M 929 (1311 + (number / 100 - 1))) + rI (M 929) (M 929 (1311 + (number / 100 - 1)))))) (by omega) rfl
                                 have s2 := step_book2 s1 (b := 1) (w := M 929 708) (o := 2083) (v := w32 (M 929 (2083 + M 929 708) + rI (M 929) (M 929 (1311 + (number / 100 - 1))))) (by omega) (by omega) (by omega) rfl
                                 have s3 := step_book2 s2 (b := 3) (w := M 929 708) (o := 2685) (v := w32 (M 929 (2685 + M 929 708) + 1)) (by omega) (by omega) (by omega) rfl
                                 have s4 := step_book2 s3 (b := 5) (w := M 929 708) (o := 3287) (v := w32 (M 929 (3287 + M 929 708) + (2 * M 929 (830 + M 929 (1311 + (number / 100 - 1))) + rI (M 929) (M 929 (1311 + (number / 100 - 1)))))) (by omega) (by omega) (by omega) rfl
                                 have s5 := step_left1 s4 (p := M 929 (1311 + (number / 100 - 1))) (by (try simp (disch := omega) only [jset_k, jset_j, jset_same, true_and, and_true, cKill_o, rKill_o]); try omega)
                                 simp (disch := omega) only [jset_k (k' := 929) (j' := 708), jset_j (j' := 708)] at s5
                                 have s6 := step_kill s5 (p := M 929 (1311 + (number / 100 - 1))) (n := M 929 1310) (n2 := M 929 1310) (by (try simp (disch := omega) only [jset_k, jset_j, jset_same, true_and, and_true, cKill_o, rKill_o]); try omega) (by (try simp (disch := omega) only [jset_k, jset_j, jset_same, true_and, and_true, cKill_o, rKill_o]); try omega)
                                 refine inv_eq s6 ?_ ?_
                                 · repeat (first | exact Ceq.rf | refine Ceq.lg ?_ | refine Ceq.rg ?_ | refine Ceq.lk ?_ | refine Ceq.rk ?_ | refine Ceq.lr ?_ | refine Ceq.rr ?_ | refine Ceq.give ?_ (by omega) (by omega) | refine Ceq.kill ?_ (by omega) (by omega) | refine Ceq.set ?_ (by omega) (by omega) (by first | rfl | omega | exact congrArg w32 (by omega)))
                                 · simp (disch := first | omega | (simp (disch := omega) only [jset_k, jset_j, jset_same, true_and, and_true, cKill_o, rKill_o]; omega)) only [rGive_929, rKill_929, jset_929, cGive_hi, cKill_hi, cEnter_hi, jset_row]))))
        · skip
          refine e_bipush 93 dX11_fetch_91 (by decide) rfl ?_
          refine e_iret dX11_fetch_93 ?_
          refine jCt_of mt_yX12_fetch (Nat.le_of_ble_eq_true rfl) (fun X2 => ?_)
          refine e_aload_n (i := 0) 1 dX12_fetch_0 rfl rfl rfl ?_
          refine e_iconst 2 dX12_fetch_1 rfl ?_
          refine e_put0 (j := 0) 5 fl_12_1 dX12_fetch_2 at_928 rfl rfl rfl (by decide) hI.1 rfl ?_
          refine e_aload_n (i := 0) 6 dX12_fetch_5 rfl rfl rfl ?_
          refine e_iload_n (i := 1) 7 dX12_fetch_6 rfl rfl rfl ?_
          refine e_callV 10 mt_yX12_stateOf mv_yX12_stateOf wd_1535 (by decide) dX12_fetch_7 at_928 jc_12 rfl rfl rfl (Nat.le_of_ble_eq_true rfl) (jroom (by decide)) rfl (m_stateOf (by omega) hg.2.2.2.1 (fun t a b => (hC.tk a b).2.2.2.1) (fun w7 => ?_) (fun w7 => ?_) (fun w7 => ?_) (fun w7 => ?_))
          · (exfalso; (try simp only [tkBad, tkGood] at *); omega)
          · (exfalso; (try simp only [tkBad, tkGood] at *); omega)
          · (exfalso; (try simp only [tkBad, tkGood] at *); omega)
          · dsimp only [jpush]
            first
             | (exfalso; omega)
             | (skip
                refine e_if_eq 13 16 dX12_fetch_10 (by decide) (by decide) rfl (fun _ => ?_) (fun h => absurd h (by decide))
                refine e_iload_n (i := 1) 17 dX12_fetch_16 rfl rfl rfl ?_
                refine e_bipush 19 dX12_fetch_17 (by decide) rfl ?_
                have hg2 := w7.1
                unfold tkGood at hg2
                have ed : number.tdiv 100 = number / 100 := Int.tdiv_eq_ediv_of_nonneg (by omega)
                refine e_idiv 20 dX12_fetch_19 (by omega) (by decide) (by decide) rfl ?_
                refine e_iconst 21 dX12_fetch_20 rfl ?_
                refine e_isub 22 dX12_fetch_21 rfl ?_
                rw [ed]
                refine e_istore_n (i := 2) (lsn := [(2, _), (0, _), (1, _)]) 23 dX12_fetch_22 rfl (by decide) rfl rfl ?_
                refine e_aload_n (i := 0) 24 dX12_fetch_23 rfl rfl rfl ?_
                refine e_getr (j := 1) 27 fl_12_13 dX12_fetch_24 at_928 rfl rfl tp_928_1 rfl ?_
                refine e_sipush 30 dX12_fetch_27 (by decide) rfl ?_
                refine e_iload_n (i := 2) 31 dX12_fetch_30 rfl rfl rfl ?_
                refine e_iadd 32 dX12_fetch_31 rfl ?_
                refine e_iald 33 dX12_fetch_32 ar_929 (by omega) (by omega) rfl (fun r32 => ?_)
                refine e_istore_n (i := 3) (lsn := [(3, _), (2, _), (0, _), (1, _)]) 34 dX12_fetch_33 rfl (by decide) rfl rfl ?_
                refine e_aload_n (i := 0) 35 dX12_fetch_34 rfl rfl rfl ?_
                refine e_iload_n (i := 3) 36 dX12_fetch_35 rfl rfl rfl ?_
                refine e_callV 39 mt_yX12_isHeld mv_yX12_isHeld wd_1559 (by decide) dX12_fetch_36 at_928 jc_12 rfl rfl rfl (Nat.le_of_ble_eq_true rfl) (jroom (by decide)) rfl (m_isHeld (by omega) (fun w36 => ?_) (fun w36 => ?_))
                · dsimp only [jpush]
                  first
                   | (exfalso; omega)
                   | (skip
                      refine e_if_eq 42 45 dX12_fetch_39 (by decide) (by decide) rfl (fun h => absurd h (by decide)) (fun _ => ?_)
                      refine e_bipush 44 dX12_fetch_42 (by decide) rfl ?_
                      refine e_iret dX12_fetch_44 ?_
                      first
                        | (exact ⟨by omega, hI⟩)
                        | (exfalso; omega))
                · dsimp only [jpush]
                  first
                   | (exfalso; omega)
                   | (skip
                      refine e_if_eq 42 45 dX12_fetch_39 (by decide) (by decide) rfl (fun _ => ?_) (fun h => absurd h (by decide))
                      refine e_aload_n (i := 0) 46 dX12_fetch_45 rfl rfl rfl ?_
                      refine e_iload_n (i := 3) 47 dX12_fetch_46 rfl rfl rfl ?_
                      refine e_callV 50 mt_yX12_dueOf mv_yX12_dueOf wd_1547 (by decide) dX12_fetch_47 at_928 jc_12 rfl rfl rfl (Nat.le_of_ble_eq_true rfl) (jroom (by decide)) rfl (m_dueOf (by first | exact hC.1.okP (by omega) (by omega) | (rw [hA]; exact hC.1.okP (by omega) (by omega))) ?_)
                      dsimp only [jpush]
                      refine e_istore (lsn := [(4, _), (3, _), (2, _), (0, _), (1, _)]) 52 dX12_fetch_50 (by decide) rfl rfl ?_
                      refine e_aload_n (i := 0) 53 dX12_fetch_52 rfl rfl rfl ?_
                      refine e_getr (j := 1) 56 fl_12_13 dX12_fetch_53 at_928 rfl rfl tp_928_1 rfl ?_
                      refine e_sipush 59 dX12_fetch_56 (by decide) rfl ?_
                      refine e_aload_n (i := 0) 60 dX12_fetch_59 rfl rfl rfl ?_
                      refine e_getr (j := 1) 63 fl_12_13 dX12_fetch_60 at_928 rfl rfl tp_928_1 rfl ?_
                      refine e_sipush 66 dX12_fetch_63 (by decide) rfl ?_
                      refine e_iload_n (i := 2) 67 dX12_fetch_66 rfl rfl rfl ?_
                      refine e_iadd 68 dX12_fetch_67 rfl ?_
                      refine e_iald 69 dX12_fetch_68 ar_929 (by omega) (by omega) rfl (fun r68 => ?_)
                      refine e_iadd 70 dX12_fetch_69 rfl ?_
                      refine e_iald 71 dX12_fetch_70 ar_929 (by omega) (by omega) rfl (fun r70 => ?_)
                      refine e_iload 73 dX12_fetch_71 rfl rfl ?_
                      refine e_icmp_ge 76 79 dX12_fetch_73 (by omega) (by omega) (by decide) rfl (fun b73 => ?_) (fun b73 => ?_)
                      · first
                         | (exfalso; omega)
                         | (skip
                            refine e_aload_n (i := 0) 80 dX12_fetch_79 rfl rfl rfl ?_
                            refine e_getr (j := 1) 83 fl_12_13 dX12_fetch_80 at_928 rfl rfl tp_928_1 rfl ?_
                            refine e_sipush 86 dX12_fetch_83 (by decide) rfl ?_
                            refine e_aload_n (i := 0) 87 dX12_fetch_86 rfl rfl rfl ?_
                            refine e_getr (j := 1) 90 fl_12_13 dX12_fetch_87 at_928 rfl rfl tp_928_1 rfl ?_
                            refine e_sipush 93 dX12_fetch_90 (by decide) rfl ?_
                            refine e_iload_n (i := 2) 94 dX12_fetch_93 rfl rfl rfl ?_
                            refine e_iadd 95 dX12_fetch_94 rfl ?_
                            refine e_iald 96 dX12_fetch_95 ar_929 (by omega) (by omega) rfl (fun r95 => ?_)
                            refine e_iadd 97 dX12_fetch_96 rfl ?_
                            refine e_dup2 98 dX12_fetch_97 rfl rfl rfl ?_
                            refine e_iald 99 dX12_fetch_98 ar_929 (by omega) (by omega) rfl (fun r98 => ?_)
                            refine e_iload 101 dX12_fetch_99 rfl rfl ?_
                            refine e_isub 102 dX12_fetch_101 rfl ?_
                            refine e_iastw 103 dX12_fetch_102 ar_929 (by omega) (by omega) rfl ?_
                            refine e_aload_n (i := 0) 104 dX12_fetch_103 rfl rfl rfl ?_
                            refine e_getr (j := 1) 107 fl_12_13 dX12_fetch_104 at_928 rfl rfl tp_928_1 rfl ?_
                            refine e_sipush 110 dX12_fetch_107 (by decide) rfl ?_
                            refine e_aload_n (i := 0) 111 dX12_fetch_110 rfl rfl rfl ?_
                            refine e_getr (j := 1) 114 fl_12_13 dX12_fetch_111 at_928 rfl rfl tp_928_1 rfl ?_
                            refine e_sipush 117 dX12_fetch_114 (by decide) rfl ?_
                            refine e_iald 118 dX12_fetch_117 ar_929 (by decide) (by decide) rfl (fun r117 => ?_)
                            simp (disch := omega) only [jset_k, jset_j, jset_same, true_and, and_true] at r117 ⊢
                            refine e_iadd 119 dX12_fetch_118 rfl ?_
                            refine e_dup2 120 dX12_fetch_119 rfl rfl rfl ?_
                            refine e_iald 121 dX12_fetch_120 ar_929 (by omega) (by omega) rfl (fun r120 => ?_)
                            simp (disch := omega) only [jset_k, jset_j, jset_same, true_and, and_true] at r120 ⊢
                            refine e_aload_n (i := 0) 122 dX12_fetch_121 rfl rfl rfl ?_
                            refine e_iload_n (i := 3) 123 dX12_fetch_122 rfl rfl rfl ?_
                            refine e_callV 126 mt_yX12_interestOf mv_yX12_interestOf wd_1551 (by decide) dX12_fetch_123 at_928 jc_12 rfl rfl rfl (Nat.le_of_ble_eq_true rfl) (jroom (by decide)) rfl (m_interestOf (rOkP_set (by rw [hA]; exact hC.1.okP (by omega) (by omega)) (by omega)) ?_)
                            dsimp only [jpush]
                            (try rw [rI_set hO1 (by omega) (by omega), hA])
                            refine e_iadd 127 dX12_fetch_126 rfl ?_
                            refine e_iastw 128 dX12_fetch_127 ar_929 (by omega) (by omega) rfl ?_
                            refine e_aload_n (i := 0) 129 dX12_fetch_128 rfl rfl rfl ?_
                            refine e_getr (j := 1) 132 fl_12_13 dX12_fetch_129 at_928 rfl rfl tp_928_1 rfl ?_
                            refine e_sipush 135 dX12_fetch_132 (by decide) rfl ?_
                            refine e_aload_n (i := 0) 136 dX12_fetch_135 rfl rfl rfl ?_
                            refine e_getr (j := 1) 139 fl_12_13 dX12_fetch_136 at_928 rfl rfl tp_928_1 rfl ?_
                            refine e_sipush 142 dX12_fetch_139 (by decide) rfl ?_
                            refine e_iald 143 dX12_fetch_142 ar_929 (by decide) (by decide) rfl (fun r142 => ?_)
                            simp (disch := omega) only [jset_k, jset_j, jset_same, true_and, and_true] at r142 ⊢
                            refine e_iadd 144 dX12_fetch_143 rfl ?_
                            refine e_dup2 145 dX12_fetch_144 rfl rfl rfl ?_
                            refine e_iald 146 dX12_fetch_145 ar_929 (by omega) (by omega) rfl (fun r145 => ?_)
                            simp (disch := omega) only [jset_k, jset_j, jset_same, true_and, and_true] at r145 ⊢
                            refine e_iconst 147 dX12_fetch_146 rfl ?_
                            refine e_iadd 148 dX12_fetch_147 rfl ?_
                            refine e_iastw 149 dX12_fetch_148 ar_929 (by omega) (by omega) rfl ?_
                            refine e_aload_n (i := 0) 150 dX12_fetch_149 rfl rfl rfl ?_
                            refine e_getr (j := 1) 153 fl_12_13 dX12_fetch_150 at_928 rfl rfl tp_928_1 rfl ?_
                            refine e_sipush 156 dX12_fetch_153 (by decide) rfl ?_
                            refine e_aload_n (i := 0) 157 dX12_fetch_156 rfl rfl rfl ?_
                            refine e_getr (j := 1) 160 fl_12_13 dX12_fetch_157 at_928 rfl rfl tp_928_1 rfl ?_
                            refine e_sipush 163 dX12_fetch_160 (by decide) rfl ?_
                            refine e_iald 164 dX12_fetch_163 ar_929 (by decide) (by decide) rfl (fun r163 => ?_)
                            simp (disch := omega) only [jset_k, jset_j, jset_same, true_and, and_true] at r163 ⊢
                            refine e_iadd 165 dX12_fetch_164 rfl ?_
                            refine e_dup2 166 dX12_fetch_165 rfl rfl rfl ?_
                            refine e_iald 167 dX12_fetch_166 ar_929 (by omega) (by omega) rfl (fun r166 => ?_)
                            simp (disch := omega) only [jset_k, jset_j, jset_same, true_and, and_true] at r166 ⊢
                            refine e_iload 169 dX12_fetch_167 rfl rfl ?_
                            refine e_iadd 170 dX12_fetch_169 rfl ?_
                            refine e_iastw 171 dX12_fetch_170 ar_929 (by omega) (by omega) rfl ?_
                            refine e_aload_n (i := 0) 172 dX12_fetch_171 rfl rfl rfl ?_
                            refine e_iload_n (i := 3) 173 dX12_fetch_172 rfl rfl rfl ?_
                            refine e_iconst 174 dX12_fetch_173 rfl ?_
                            refine e_callV 177 mt_yX12_leaves mv_yX12_leaves wd_1563 (by decide) dX12_fetch_174 at_928 jc_12 rfl rfl rfl (Nat.le_of_ble_eq_true rfl) (jroom (by decide)) rfl (m_leaves (by omega) (by decide) (by (try simp (disch := omega) only [jset_k, jset_j, jset_same, true_and, and_true, hA, rKill_o]); omega) ?_)
                            dsimp only [jpush]
                            refine e_iload 179 dX12_fetch_177 rfl rfl ?_
                            refine e_iret dX12_fetch_179 ?_
                            first
                              | (exact ⟨by omega, hI⟩)
                              | (exfalso; omega)
                              | ((try subst hM1)
                                 refine ⟨by first | omega | exact congrArg tkNum (by omega), ?_⟩
                                 have s1 := step_purse hI (q := M 929 (1461 + (number / 100 - 1))) (v := w32 (M 929 (692 + M 929 (1461 + (number / 100 - 1))) - (2 * M 929 (830 + M 929 (1311 + (number / 100 - 1))) + rI (M 929) (M 929 (1311 + (number / 100 - 1)))))) (by omega) rfl
                                 have s2 := step_book2 s1 (b := 1) (w := M 929 708) (o := 2083) (v := w32 (M 929 (2083 + M 929 708) + rI (M 929) (M 929 (1311 + (number / 100 - 1))))) (by omega) (by omega) (by omega) rfl
                                 have s3 := step_book2 s2 (b := 3) (w := M 929 708) (o := 2685) (v := w32 (M 929 (2685 + M 929 708) + 1)) (by omega) (by omega) (by omega) rfl
                                 have s4 := step_book2 s3 (b := 5) (w := M 929 708) (o := 3287) (v := w32 (M 929 (3287 + M 929 708) + (2 * M 929 (830 + M 929 (1311 + (number / 100 - 1))) + rI (M 929) (M 929 (1311 + (number / 100 - 1)))))) (by omega) (by omega) (by omega) rfl
                                 have s5 := step_left1 s4 (p := M 929 (1311 + (number / 100 - 1))) (by (try simp (disch := omega) only [jset_k, jset_j, jset_same, true_and, and_true, cKill_o, rKill_o]); try omega)
                                 simp (disch := omega) only [jset_k (k' := 929) (j' := 708), jset_j (j' := 708)] at s5
                                 have s6 := step_kill s5 (p := M 929 (1311 + (number / 100 - 1))) (n := M 929 1310) (n2 := M 929 1310) (by (try simp (disch := omega) only [jset_k, jset_j, jset_same, true_and, and_true, cKill_o, rKill_o]); try omega) (by (try simp (disch := omega) only [jset_k, jset_j, jset_same, true_and, and_true, cKill_o, rKill_o]); try omega)
                                 refine inv_eq s6 ?_ ?_
                                 · repeat (first | exact Ceq.rf | refine Ceq.lg ?_ | refine Ceq.rg ?_ | refine Ceq.lk ?_ | refine Ceq.rk ?_ | refine Ceq.lr ?_ | refine Ceq.rr ?_ | refine Ceq.give ?_ (by omega) (by omega) | refine Ceq.kill ?_ (by omega) (by omega) | refine Ceq.set ?_ (by omega) (by omega) (by first | rfl | omega | exact congrArg w32 (by omega)))
                                 · simp (disch := first | omega | (simp (disch := omega) only [jset_k, jset_j, jset_same, true_and, and_true, cKill_o, rKill_o]; omega)) only [rGive_929, rKill_929, jset_929, cGive_hi, cKill_hi, cEnter_hi, jset_row]))
                      · first
                         | (exfalso; omega)
                         | (skip
                            refine e_bipush 78 dX12_fetch_76 (by decide) rfl ?_
                            refine e_iret dX12_fetch_78 ?_
                            first
                              | (exact ⟨by omega, hI⟩)
                              | (exfalso; omega))))
    · skip
      refine e_bipush 16 dX11_fetch_14 (by decide) rfl ?_
      refine e_iret dX11_fetch_16 ?_
      refine jCt_of mt_yX12_fetch (Nat.le_of_ble_eq_true rfl) (fun X2 => ?_)
      refine e_aload_n (i := 0) 1 dX12_fetch_0 rfl rfl rfl ?_
      refine e_iconst 2 dX12_fetch_1 rfl ?_
      refine e_put0 (j := 0) 5 fl_12_1 dX12_fetch_2 at_928 rfl rfl rfl (by decide) hI.1 rfl ?_
      refine e_aload_n (i := 0) 6 dX12_fetch_5 rfl rfl rfl ?_
      refine e_iload_n (i := 1) 7 dX12_fetch_6 rfl rfl rfl ?_
      refine e_callV 10 mt_yX12_stateOf mv_yX12_stateOf wd_1535 (by decide) dX12_fetch_7 at_928 jc_12 rfl rfl rfl (Nat.le_of_ble_eq_true rfl) (jroom (by decide)) rfl (m_stateOf (by omega) hg.2.2.2.1 (fun t a b => (hC.tk a b).2.2.2.1) (fun w7 => ?_) (fun w7 => ?_) (fun w7 => ?_) (fun w7 => ?_))
      · (exfalso; (try simp only [tkBad, tkGood] at *); omega)
      · (exfalso; (try simp only [tkBad, tkGood] at *); omega)
      · (exfalso; (try simp only [tkBad, tkGood] at *); omega)
      · dsimp only [jpush]
        first
         | (exfalso; omega)
         | (skip
            refine e_if_eq 13 16 dX12_fetch_10 (by decide) (by decide) rfl (fun _ => ?_) (fun h => absurd h (by decide))
            refine e_iload_n (i := 1) 17 dX12_fetch_16 rfl rfl rfl ?_
            refine e_bipush 19 dX12_fetch_17 (by decide) rfl ?_
            have hg2 := w7.1
            unfold tkGood at hg2
            have ed : number.tdiv 100 = number / 100 := Int.tdiv_eq_ediv_of_nonneg (by omega)
            refine e_idiv 20 dX12_fetch_19 (by omega) (by decide) (by decide) rfl ?_
            refine e_iconst 21 dX12_fetch_20 rfl ?_
            refine e_isub 22 dX12_fetch_21 rfl ?_
            rw [ed]
            refine e_istore_n (i := 2) (lsn := [(2, _), (0, _), (1, _)]) 23 dX12_fetch_22 rfl (by decide) rfl rfl ?_
            refine e_aload_n (i := 0) 24 dX12_fetch_23 rfl rfl rfl ?_
            refine e_getr (j := 1) 27 fl_12_13 dX12_fetch_24 at_928 rfl rfl tp_928_1 rfl ?_
            refine e_sipush 30 dX12_fetch_27 (by decide) rfl ?_
            refine e_iload_n (i := 2) 31 dX12_fetch_30 rfl rfl rfl ?_
            refine e_iadd 32 dX12_fetch_31 rfl ?_
            refine e_iald 33 dX12_fetch_32 ar_929 (by omega) (by omega) rfl (fun r32 => ?_)
            refine e_istore_n (i := 3) (lsn := [(3, _), (2, _), (0, _), (1, _)]) 34 dX12_fetch_33 rfl (by decide) rfl rfl ?_
            refine e_aload_n (i := 0) 35 dX12_fetch_34 rfl rfl rfl ?_
            refine e_iload_n (i := 3) 36 dX12_fetch_35 rfl rfl rfl ?_
            refine e_callV 39 mt_yX12_isHeld mv_yX12_isHeld wd_1559 (by decide) dX12_fetch_36 at_928 jc_12 rfl rfl rfl (Nat.le_of_ble_eq_true rfl) (jroom (by decide)) rfl (m_isHeld (by omega) (fun w36 => ?_) (fun w36 => ?_))
            · dsimp only [jpush]
              first
               | (exfalso; omega)
               | (skip
                  refine e_if_eq 42 45 dX12_fetch_39 (by decide) (by decide) rfl (fun h => absurd h (by decide)) (fun _ => ?_)
                  refine e_bipush 44 dX12_fetch_42 (by decide) rfl ?_
                  refine e_iret dX12_fetch_44 ?_
                  first
                    | (exact ⟨by omega, hI⟩)
                    | (exfalso; omega))
            · dsimp only [jpush]
              first
               | (exfalso; omega)
               | (skip
                  refine e_if_eq 42 45 dX12_fetch_39 (by decide) (by decide) rfl (fun _ => ?_) (fun h => absurd h (by decide))
                  refine e_aload_n (i := 0) 46 dX12_fetch_45 rfl rfl rfl ?_
                  refine e_iload_n (i := 3) 47 dX12_fetch_46 rfl rfl rfl ?_
                  refine e_callV 50 mt_yX12_dueOf mv_yX12_dueOf wd_1547 (by decide) dX12_fetch_47 at_928 jc_12 rfl rfl rfl (Nat.le_of_ble_eq_true rfl) (jroom (by decide)) rfl (m_dueOf (by first | exact hC.1.okP (by omega) (by omega) | (rw [hA]; exact hC.1.okP (by omega) (by omega))) ?_)
                  dsimp only [jpush]
                  refine e_istore (lsn := [(4, _), (3, _), (2, _), (0, _), (1, _)]) 52 dX12_fetch_50 (by decide) rfl rfl ?_
                  refine e_aload_n (i := 0) 53 dX12_fetch_52 rfl rfl rfl ?_
                  refine e_getr (j := 1) 56 fl_12_13 dX12_fetch_53 at_928 rfl rfl tp_928_1 rfl ?_
                  refine e_sipush 59 dX12_fetch_56 (by decide) rfl ?_
                  refine e_aload_n (i := 0) 60 dX12_fetch_59 rfl rfl rfl ?_
                  refine e_getr (j := 1) 63 fl_12_13 dX12_fetch_60 at_928 rfl rfl tp_928_1 rfl ?_
                  refine e_sipush 66 dX12_fetch_63 (by decide) rfl ?_
                  refine e_iload_n (i := 2) 67 dX12_fetch_66 rfl rfl rfl ?_
                  refine e_iadd 68 dX12_fetch_67 rfl ?_
                  refine e_iald 69 dX12_fetch_68 ar_929 (by omega) (by omega) rfl (fun r68 => ?_)
                  refine e_iadd 70 dX12_fetch_69 rfl ?_
                  refine e_iald 71 dX12_fetch_70 ar_929 (by omega) (by omega) rfl (fun r70 => ?_)
                  refine e_iload 73 dX12_fetch_71 rfl rfl ?_
                  refine e_icmp_ge 76 79 dX12_fetch_73 (by omega) (by omega) (by decide) rfl (fun b73 => ?_) (fun b73 => ?_)
                  · first
                     | (exfalso; omega)
                     | (skip
                        refine e_aload_n (i := 0) 80 dX12_fetch_79 rfl rfl rfl ?_
                        refine e_getr (j := 1) 83 fl_12_13 dX12_fetch_80 at_928 rfl rfl tp_928_1 rfl ?_
                        refine e_sipush 86 dX12_fetch_83 (by decide) rfl ?_
                        refine e_aload_n (i := 0) 87 dX12_fetch_86 rfl rfl rfl ?_
                        refine e_getr (j := 1) 90 fl_12_13 dX12_fetch_87 at_928 rfl rfl tp_928_1 rfl ?_
                        refine e_sipush 93 dX12_fetch_90 (by decide) rfl ?_
                        refine e_iload_n (i := 2) 94 dX12_fetch_93 rfl rfl rfl ?_
                        refine e_iadd 95 dX12_fetch_94 rfl ?_
                        refine e_iald 96 dX12_fetch_95 ar_929 (by omega) (by omega) rfl (fun r95 => ?_)
                        refine e_iadd 97 dX12_fetch_96 rfl ?_
                        refine e_dup2 98 dX12_fetch_97 rfl rfl rfl ?_
                        refine e_iald 99 dX12_fetch_98 ar_929 (by omega) (by omega) rfl (fun r98 => ?_)
                        refine e_iload 101 dX12_fetch_99 rfl rfl ?_
                        refine e_isub 102 dX12_fetch_101 rfl ?_
                        refine e_iastw 103 dX12_fetch_102 ar_929 (by omega) (by omega) rfl ?_
                        refine e_aload_n (i := 0) 104 dX12_fetch_103 rfl rfl rfl ?_
                        refine e_getr (j := 1) 107 fl_12_13 dX12_fetch_104 at_928 rfl rfl tp_928_1 rfl ?_
                        refine e_sipush 110 dX12_fetch_107 (by decide) rfl ?_
                        refine e_aload_n (i := 0) 111 dX12_fetch_110 rfl rfl rfl ?_
                        refine e_getr (j := 1) 114 fl_12_13 dX12_fetch_111 at_928 rfl rfl tp_928_1 rfl ?_
                        refine e_sipush 117 dX12_fetch_114 (by decide) rfl ?_
                        refine e_iald 118 dX12_fetch_117 ar_929 (by decide) (by decide) rfl (fun r117 => ?_)
                        simp (disch := omega) only [jset_k, jset_j, jset_same, true_and, and_true] at r117 ⊢
                        refine e_iadd 119 dX12_fetch_118 rfl ?_
                        refine e_dup2 120 dX12_fetch_119 rfl rfl rfl ?_
                        refine e_iald 121 dX12_fetch_120 ar_929 (by omega) (by omega) rfl (fun r120 => ?_)
                        simp (disch := omega) only [jset_k, jset_j, jset_same, true_and, and_true] at r120 ⊢
                        refine e_aload_n (i := 0) 122 dX12_fetch_121 rfl rfl rfl ?_
                        refine e_iload_n (i := 3) 123 dX12_fetch_122 rfl rfl rfl ?_
                        refine e_callV 126 mt_yX12_interestOf mv_yX12_interestOf wd_1551 (by decide) dX12_fetch_123 at_928 jc_12 rfl rfl rfl (Nat.le_of_ble_eq_true rfl) (jroom (by decide)) rfl (m_interestOf (rOkP_set (by rw [hA]; exact hC.1.okP (by omega) (by omega)) (by omega)) ?_)
                        dsimp only [jpush]
                        (try rw [rI_set hO1 (by omega) (by omega), hA])
                        refine e_iadd 127 dX12_fetch_126 rfl ?_
                        refine e_iastw 128 dX12_fetch_127 ar_929 (by omega) (by omega) rfl ?_
                        refine e_aload_n (i := 0) 129 dX12_fetch_128 rfl rfl rfl ?_
                        refine e_getr (j := 1) 132 fl_12_13 dX12_fetch_129 at_928 rfl rfl tp_928_1 rfl ?_
                        refine e_sipush 135 dX12_fetch_132 (by decide) rfl ?_
                        refine e_aload_n (i := 0) 136 dX12_fetch_135 rfl rfl rfl ?_
                        refine e_getr (j := 1) 139 fl_12_13 dX12_fetch_136 at_928 rfl rfl tp_928_1 rfl ?_
                        refine e_sipush 142 dX12_fetch_139 (by decide) rfl ?_
                        refine e_iald 143 dX12_fetch_142 ar_929 (by decide) (by decide) rfl (fun r142 => ?_)
                        simp (disch := omega) only [jset_k, jset_j, jset_same, true_and, and_true] at r142 ⊢
                        refine e_iadd 144 dX12_fetch_143 rfl ?_
                        refine e_dup2 145 dX12_fetch_144 rfl rfl rfl ?_
                        refine e_iald 146 dX12_fetch_145 ar_929 (by omega) (by omega) rfl (fun r145 => ?_)
                        simp (disch := omega) only [jset_k, jset_j, jset_same, true_and, and_true] at r145 ⊢
                        refine e_iconst 147 dX12_fetch_146 rfl ?_
                        refine e_iadd 148 dX12_fetch_147 rfl ?_
                        refine e_iastw 149 dX12_fetch_148 ar_929 (by omega) (by omega) rfl ?_
                        refine e_aload_n (i := 0) 150 dX12_fetch_149 rfl rfl rfl ?_
                        refine e_getr (j := 1) 153 fl_12_13 dX12_fetch_150 at_928 rfl rfl tp_928_1 rfl ?_
                        refine e_sipush 156 dX12_fetch_153 (by decide) rfl ?_
                        refine e_aload_n (i := 0) 157 dX12_fetch_156 rfl rfl rfl ?_
                        refine e_getr (j := 1) 160 fl_12_13 dX12_fetch_157 at_928 rfl rfl tp_928_1 rfl ?_
                        refine e_sipush 163 dX12_fetch_160 (by decide) rfl ?_
                        refine e_iald 164 dX12_fetch_163 ar_929 (by decide) (by decide) rfl (fun r163 => ?_)
                        simp (disch := omega) only [jset_k, jset_j, jset_same, true_and, and_true] at r163 ⊢
                        refine e_iadd 165 dX12_fetch_164 rfl ?_
                        refine e_dup2 166 dX12_fetch_165 rfl rfl rfl ?_
                        refine e_iald 167 dX12_fetch_166 ar_929 (by omega) (by omega) rfl (fun r166 => ?_)
                        simp (disch := omega) only [jset_k, jset_j, jset_same, true_and, and_true] at r166 ⊢
                        refine e_iload 169 dX12_fetch_167 rfl rfl ?_
                        refine e_iadd 170 dX12_fetch_169 rfl ?_
                        refine e_iastw 171 dX12_fetch_170 ar_929 (by omega) (by omega) rfl ?_
                        refine e_aload_n (i := 0) 172 dX12_fetch_171 rfl rfl rfl ?_
                        refine e_iload_n (i := 3) 173 dX12_fetch_172 rfl rfl rfl ?_
                        refine e_iconst 174 dX12_fetch_173 rfl ?_
                        refine e_callV 177 mt_yX12_leaves mv_yX12_leaves wd_1563 (by decide) dX12_fetch_174 at_928 jc_12 rfl rfl rfl (Nat.le_of_ble_eq_true rfl) (jroom (by decide)) rfl (m_leaves (by omega) (by decide) (by (try simp (disch := omega) only [jset_k, jset_j, jset_same, true_and, and_true, hA, rKill_o]); omega) ?_)
                        dsimp only [jpush]
                        refine e_iload 179 dX12_fetch_177 rfl rfl ?_
                        refine e_iret dX12_fetch_179 ?_
                        first
                          | (exact ⟨by omega, hI⟩)
                          | (exfalso; omega)
                          | ((try subst hM1)
                             refine ⟨by first | omega | exact congrArg tkNum (by omega), ?_⟩
                             have s1 := step_purse hI (q := M 929 (1461 + (number / 100 - 1))) (v := w32 (M 929 (692 + M 929 (1461 + (number / 100 - 1))) - (2 * M 929 (830 + M 929 (1311 + (number / 100 - 1))) + rI (M 929) (M 929 (1311 + (number / 100 - 1)))))) (by omega) rfl
                             have s2 := step_book2 s1 (b := 1) (w := M 929 708) (o := 2083) (v := w32 (M 929 (2083 + M 929 708) + rI (M 929) (M 929 (1311 + (number / 100 - 1))))) (by omega) (by omega) (by omega) rfl
                             have s3 := step_book2 s2 (b := 3) (w := M 929 708) (o := 2685) (v := w32 (M 929 (2685 + M 929 708) + 1)) (by omega) (by omega) (by omega) rfl
                             have s4 := step_book2 s3 (b := 5) (w := M 929 708) (o := 3287) (v := w32 (M 929 (3287 + M 929 708) + (2 * M 929 (830 + M 929 (1311 + (number / 100 - 1))) + rI (M 929) (M 929 (1311 + (number / 100 - 1)))))) (by omega) (by omega) (by omega) rfl
                             have s5 := step_left1 s4 (p := M 929 (1311 + (number / 100 - 1))) (by (try simp (disch := omega) only [jset_k, jset_j, jset_same, true_and, and_true, cKill_o, rKill_o]); try omega)
                             simp (disch := omega) only [jset_k (k' := 929) (j' := 708), jset_j (j' := 708)] at s5
                             have s6 := step_kill s5 (p := M 929 (1311 + (number / 100 - 1))) (n := M 929 1310) (n2 := M 929 1310) (by (try simp (disch := omega) only [jset_k, jset_j, jset_same, true_and, and_true, cKill_o, rKill_o]); try omega) (by (try simp (disch := omega) only [jset_k, jset_j, jset_same, true_and, and_true, cKill_o, rKill_o]); try omega)
                             refine inv_eq s6 ?_ ?_
                             · repeat (first | exact Ceq.rf | refine Ceq.lg ?_ | refine Ceq.rg ?_ | refine Ceq.lk ?_ | refine Ceq.rk ?_ | refine Ceq.lr ?_ | refine Ceq.rr ?_ | refine Ceq.give ?_ (by omega) (by omega) | refine Ceq.kill ?_ (by omega) (by omega) | refine Ceq.set ?_ (by omega) (by omega) (by first | rfl | omega | exact congrArg w32 (by omega)))
                             · simp (disch := first | omega | (simp (disch := omega) only [jset_k, jset_j, jset_same, true_and, and_true, cKill_o, rKill_o]; omega)) only [rGive_929, rKill_929, jset_929, cGive_hi, cKill_hi, cEnter_hi, jset_row]))
                  · first
                     | (exfalso; omega)
                     | (skip
                        refine e_bipush 78 dX12_fetch_76 (by decide) rfl ?_
                        refine e_iret dX12_fetch_78 ?_
                        first
                          | (exact ⟨by omega, hI⟩)
                          | (exfalso; omega))))
  · dsimp only [jpush]
    (try simp (disch := omega) only [jset_k, jset_j, jset_same, true_and, and_true, cKill_o, rKill_o, cEnter, cLeave_1, cLeave_2, rLeave, iOf_set])
    refine e_istore_n (i := 2) (lsn := [(2, _), (0, _), (1, _)]) 9 dX11_fetch_8 rfl (by decide) rfl rfl ?_
    refine e_iload_n (i := 2) 10 dX11_fetch_9 rfl rfl rfl ?_
    refine e_iconst 11 dX11_fetch_10 rfl ?_
    refine e_icmp_ne 14 17 dX11_fetch_11 (by decide) (by decide) (by decide) rfl (fun h => absurd h (by decide)) (fun _ => ?_)
    refine e_bipush 16 dX11_fetch_14 (by decide) rfl ?_
    refine e_iret dX11_fetch_16 ?_
    refine jCt_of mt_yX12_fetch (Nat.le_of_ble_eq_true rfl) (fun X2 => ?_)
    refine e_aload_n (i := 0) 1 dX12_fetch_0 rfl rfl rfl ?_
    refine e_iconst 2 dX12_fetch_1 rfl ?_
    refine e_put0 (j := 0) 5 fl_12_1 dX12_fetch_2 at_928 rfl rfl rfl (by decide) hI.1 rfl ?_
    refine e_aload_n (i := 0) 6 dX12_fetch_5 rfl rfl rfl ?_
    refine e_iload_n (i := 1) 7 dX12_fetch_6 rfl rfl rfl ?_
    refine e_callV 10 mt_yX12_stateOf mv_yX12_stateOf wd_1535 (by decide) dX12_fetch_7 at_928 jc_12 rfl rfl rfl (Nat.le_of_ble_eq_true rfl) (jroom (by decide)) rfl (m_stateOf (by omega) hg.2.2.2.1 (fun t a b => (hC.tk a b).2.2.2.1) (fun w7 => ?_) (fun w7 => ?_) (fun w7 => ?_) (fun w7 => ?_))
    · dsimp only [jpush]
      first
       | (exfalso; omega)
       | (skip
          refine e_if_eq 13 16 dX12_fetch_10 (by decide) (by decide) rfl (fun h => absurd h (by decide)) (fun _ => ?_)
          refine e_bipush 15 dX12_fetch_13 (by decide) rfl ?_
          refine e_iret dX12_fetch_15 ?_
          first
            | (exact ⟨by omega, hI⟩)
            | (exfalso; omega))
    · dsimp only [jpush]
      first
       | (exfalso; omega)
       | (skip
          refine e_if_eq 13 16 dX12_fetch_10 (by decide) (by decide) rfl (fun h => absurd h (by decide)) (fun _ => ?_)
          refine e_bipush 15 dX12_fetch_13 (by decide) rfl ?_
          refine e_iret dX12_fetch_15 ?_
          first
            | (exact ⟨by omega, hI⟩)
            | (exfalso; omega))
    · dsimp only [jpush]
      first
       | (exfalso; omega)
       | (skip
          refine e_if_eq 13 16 dX12_fetch_10 (by decide) (by decide) rfl (fun h => absurd h (by decide)) (fun _ => ?_)
          refine e_bipush 15 dX12_fetch_13 (by decide) rfl ?_
          refine e_iret dX12_fetch_15 ?_
          first
            | (exact ⟨by omega, hI⟩)
            | (exfalso; omega))
    · (exfalso; (try simp only [tkBad, tkGood] at *); omega)

