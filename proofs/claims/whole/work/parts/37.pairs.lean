/-! PAIRS: renew -/
theorem p_renew {M : jM} (hI : Inv M) {number : Int} (hnumber : -2147483648 ≤ number ∧ number ≤ 2147483647) : jCt yX11_renew cX11_renew 8 (some .int) 4 [jR 0, jI number] M (fun z M1 => jCt yX12_renew cX12_renew 6 (some .int) 3 [jR 928, jI number] M1 (fun z2 M2 => z = z2 ∧ Inv M2)) := by
  have hC := hI.cr
  have hn := hC.cnt
  have hg := hC.rng
  refine jCt_of mt_yX11_renew (Nat.le_of_ble_eq_true rfl) (fun X => ?_)
  refine e_aload_n (i := 0) 1 dX11_renew_0 rfl rfl rfl ?_
  refine e_getr (j := 0) 4 fl_11_10 dX11_renew_1 at_0 rfl rfl tp_0_0 rfl ?_
  refine e_iload_n (i := 1) 5 dX11_renew_4 rfl rfl rfl ?_
  refine e_callV 8 mt_yX8_living mv_yX8_living wd_812 (by decide) dX11_renew_5 at_1 jc_8 rfl rfl rfl (Nat.le_of_ble_eq_true rfl) (jroom (by decide)) rfl (c_living (by (try simp (disch := omega) only [jset_k, jset_j, jset_same, true_and, and_true, cKill_o, rKill_o, cEnter]); omega) hC (fun w5 => ?_) (fun w5 => ?_))
  · dsimp only [jpush]
    (try simp (disch := omega) only [jset_k, jset_j, jset_same, true_and, and_true, cKill_o, rKill_o, cEnter])
    refine e_istore_n (i := 2) (lsn := [(2, _), (0, _), (1, _)]) 9 dX11_renew_8 rfl (by decide) rfl rfl ?_
    refine e_iload_n (i := 2) 10 dX11_renew_9 rfl rfl rfl ?_
    refine e_iconst 11 dX11_renew_10 rfl ?_
    refine e_icmp_ne 14 17 dX11_renew_11 (by omega) (by decide) (by decide) rfl (fun b11 => ?_) (fun b11 => ?_)
    · skip
      refine e_aload_n (i := 0) 18 dX11_renew_17 rfl rfl rfl ?_
      refine e_getr (j := 0) 21 fl_11_10 dX11_renew_18 at_0 rfl rfl tp_0_0 rfl ?_
      refine e_geti (j := 12) 24 fl_11_222 dX11_renew_21 at_1 (by decide) rfl rfl (fun r21 => ?_)
      refine e_sipush 27 dX11_renew_24 (by decide) rfl ?_
      refine e_icmp_lt 30 33 dX11_renew_27 (by omega) (by decide) (by decide) rfl (fun b27 => ?_) (fun b27 => ?_)
      · skip
        have ht := hC.tk (t := number / 100 - 1) (by omega) (by omega)
        have hpr := hC.plr (p := M 929 (1311 + (number / 100 - 1))) ht.2.1.1 ht.2.1.2
        have hp := hC.pl (p := M 929 (1311 + (number / 100 - 1))) ht.2.1.1 ht.2.1.2
        have hq := hC.pers ht.2.2.1.1 ht.2.2.1.2
        have hu := hC.rule
        have e0 : M (68 + M (144 + (number / 100 - 1)) 1) 3 = M 929 (692 + M 929 (1461 + (number / 100 - 1))) := by rw [ht.1.2.1]; exact hq.1.2.2.2.1
        have e1 : M (84 + M (144 + (number / 100 - 1)) 0) 2 = M 929 (830 + M 929 (1311 + (number / 100 - 1))) := by rw [ht.1.1]; exact hp.1.2.2.1
        have e7 : M (84 + M (144 + (number / 100 - 1)) 0) 7 = M 929 (1070 + M 929 (1311 + (number / 100 - 1))) := by rw [ht.1.1]; exact hp.1.2.2.2.2.2.2.2
        have hio : iOf M (M (144 + (number / 100 - 1)) 0) = rI (M 929) (M 929 (1311 + (number / 100 - 1))) := by rw [ht.1.1]; exact hC.iOf ht.2.1.1 ht.2.1.2
        have hir := iOf_rng (hC.pOk (p := M (144 + (number / 100 - 1)) 0) (by omega) (by omega))
        have e11 : M (84 + M (144 + (number / 100 - 1)) 0) 11 = M 929 (3775 + M 929 (1311 + (number / 100 - 1))) := by rw [ht.1.1]; exact hp.2.2.2.2.1
        have e12 : M (84 + M (144 + (number / 100 - 1)) 0) 12 = M 929 (3835 + M 929 (1311 + (number / 100 - 1))) := by rw [ht.1.1]; exact hp.2.2.2.2.2
        have hb := hC.bk (w := M 929 708) (by omega) (by omega)
        have q1 : M (32 + 1) (M 1 4) = M 929 (2083 + M 929 708) := by rw [hn.2.2.2.2.2.2.1]; exact hb.2.1
        have q3 : M (32 + 3) (M 1 4) = M 929 (2685 + M 929 708) := by rw [hn.2.2.2.2.2.2.1]; exact hb.2.2.2.1
        have q5 : M (32 + 5) (M 1 4) = M 929 (3287 + M 929 708) := by rw [hn.2.2.2.2.2.2.1]; exact hb.2.2.2.2.2
        refine e_aload_n (i := 0) 34 dX11_renew_33 rfl rfl rfl ?_
        refine e_getr (j := 0) 37 fl_11_10 dX11_renew_34 at_0 rfl rfl tp_0_0 rfl ?_
        refine e_getr (j := 11) 40 fl_11_188 dX11_renew_37 at_1 rfl rfl tp_1_11 rfl ?_
        refine e_iload_n (i := 2) 41 dX11_renew_40 rfl rfl rfl ?_
        refine e_aald 42 dX11_renew_41 ar_19 (by decide) (by omega) (by omega) (tp_ticket (by omega) (by omega)) rfl ?_
        refine e_astore_n (i := 3) (lsn := [(3, _), (2, _), (0, _), (1, _)]) 43 dX11_renew_42 rfl (by decide) rfl rfl ?_
        refine e_aload_n (i := 0) 44 dX11_renew_43 rfl rfl rfl ?_
        refine e_getr (j := 0) 47 fl_11_10 dX11_renew_44 at_0 rfl rfl tp_0_0 rfl ?_
        refine e_getr (j := 9) 50 fl_11_200 dX11_renew_47 at_1 rfl rfl tp_1_9 rfl ?_
        refine e_aload_n (i := 3) 51 dX11_renew_50 rfl rfl rfl ?_
        refine e_geti (j := 0) 54 fl_11_192 dX11_renew_51 (at_ticket (by omega) (by omega)) (by decide) rfl rfl (fun r51 => ?_)
        refine e_aald 55 dX11_renew_54 ar_18 (by decide) (by omega) (by omega) (tp_pledge (by omega) (by omega)) rfl ?_
        refine e_astore (lsn := [(4, _), (3, _), (2, _), (0, _), (1, _)]) 57 dX11_renew_55 (by decide) rfl rfl ?_
        refine e_aload_n (i := 0) 58 dX11_renew_57 rfl rfl rfl ?_
        refine e_getr (j := 0) 61 fl_11_10 dX11_renew_58 at_0 rfl rfl tp_0_0 rfl ?_
        refine e_aload 63 dX11_renew_61 rfl rfl ?_
        refine e_callV 66 mt_yX8_interestOf mv_yX8_interestOf wd_835 (by decide) dX11_renew_63 at_1 jc_8 rfl rfl rfl (Nat.le_of_ble_eq_true rfl) (jroom (by decide)) rfl (c_interestOf (hC.pOk (by (try simp (disch := omega) only [jset_k, jset_j, jset_same, true_and, and_true, cKill_o, rKill_o, cEnter]); omega) (by (try simp (disch := omega) only [jset_k, jset_j, jset_same, true_and, and_true, cKill_o, rKill_o, cEnter]); omega)) ?_)
        dsimp only [jpush]
        (try simp (disch := omega) only [jset_k, jset_j, jset_same, true_and, and_true, cKill_o, rKill_o, cEnter])
        refine e_istore (lsn := [(5, _), (4, _), (3, _), (2, _), (0, _), (1, _)]) 68 dX11_renew_66 (by decide) rfl rfl ?_
        refine e_iload 70 dX11_renew_68 rfl rfl ?_
        refine e_aload_n (i := 0) 71 dX11_renew_70 rfl rfl rfl ?_
        refine e_getr (j := 0) 74 fl_11_10 dX11_renew_71 at_0 rfl rfl tp_0_0 rfl ?_
        refine e_getr (j := 0) 77 fl_11_73 dX11_renew_74 at_1 rfl rfl tp_1_0 rfl ?_
        refine e_getr (j := 4) 80 fl_11_225 dX11_renew_77 at_2 rfl rfl tp_2_4 rfl ?_
        refine e_iconst 81 dX11_renew_80 rfl ?_
        refine e_iald 82 dX11_renew_81 ar_6 (by decide) (by decide) rfl (fun r81 => ?_)
        refine e_iadd 83 dX11_renew_82 rfl ?_
        refine e_istore (lsn := [(6, _), (5, _), (4, _), (3, _), (2, _), (0, _), (1, _)]) 85 dX11_renew_83 (by decide) rfl rfl ?_
        refine e_aload_n (i := 0) 86 dX11_renew_85 rfl rfl rfl ?_
        refine e_getr (j := 0) 89 fl_11_10 dX11_renew_86 at_0 rfl rfl tp_0_0 rfl ?_
        refine e_getr (j := 7) 92 fl_11_149 dX11_renew_89 at_1 rfl rfl tp_1_7 rfl ?_
        refine e_aload_n (i := 3) 93 dX11_renew_92 rfl rfl rfl ?_
        refine e_geti (j := 1) 96 fl_11_197 dX11_renew_93 (at_ticket (by omega) (by omega)) (by decide) rfl rfl (fun r93 => ?_)
        refine e_aald 97 dX11_renew_96 ar_17 (by decide) (by omega) (by omega) (tp_person (by omega) (by omega)) rfl ?_
        refine e_astore (lsn := [(7, _), (6, _), (5, _), (4, _), (3, _), (2, _), (0, _), (1, _)]) 99 dX11_renew_97 (by decide) rfl rfl ?_
        refine e_aload 101 dX11_renew_99 rfl rfl ?_
        refine e_geti (j := 3) 104 fl_11_164 dX11_renew_101 (at_person (by omega) (by omega)) (by decide) rfl rfl (fun r101 => ?_)
        refine e_iload 106 dX11_renew_104 rfl rfl ?_
        refine e_icmp_ge 109 112 dX11_renew_106 (by omega) (by omega) (by decide) rfl (fun b106 => ?_) (fun b106 => ?_)
        · skip
          refine e_aload 114 dX11_renew_112 rfl rfl ?_
          refine e_dup 115 dX11_renew_114 rfl rfl ?_
          refine e_geti (j := 3) 118 fl_11_164 dX11_renew_115 (at_person (by omega) (by omega)) (by decide) rfl rfl (fun r115 => ?_)
          refine e_iload 120 dX11_renew_118 rfl rfl ?_
          refine e_isub 121 dX11_renew_120 rfl ?_
          refine e_putw (j := 3) 124 fl_11_164 dX11_renew_121 (at_person (by omega) (by omega)) rfl rfl rfl rfl ?_
          refine e_aload 126 dX11_renew_124 rfl rfl ?_
          refine e_aload_n (i := 0) 127 dX11_renew_126 rfl rfl rfl ?_
          refine e_getr (j := 0) 130 fl_11_10 dX11_renew_127 at_0 rfl rfl tp_0_0 rfl ?_
          refine e_geti (j := 4) 133 fl_11_174 dX11_renew_130 at_1 (by decide) rfl rfl (fun r130 => ?_)
          simp (disch := omega) only [jset_k, jset_j, jset_same, true_and, and_true, cKill_o, rKill_o, cEnter] at r130 ⊢
          refine e_puti (j := 3) 136 fl_11_229 dX11_renew_133 (at_pledge (by omega) (by omega)) rfl rfl rfl (by omega) rfl ?_
          refine e_aload 138 dX11_renew_136 rfl rfl ?_
          refine e_dup 139 dX11_renew_138 rfl rfl ?_
          refine e_geti (j := 11) 142 fl_11_232 dX11_renew_139 (at_pledge (by omega) (by omega)) (by decide) rfl rfl (fun r139 => ?_)
          simp (disch := omega) only [jset_k, jset_j, jset_same, true_and, and_true, cKill_o, rKill_o, cEnter] at r139 ⊢
          refine e_iconst 143 dX11_renew_142 rfl ?_
          refine e_iadd 144 dX11_renew_143 rfl ?_
          refine e_putw (j := 11) 147 fl_11_232 dX11_renew_144 (at_pledge (by omega) (by omega)) rfl rfl rfl rfl ?_
          refine e_aload 149 dX11_renew_147 rfl rfl ?_
          refine e_dup 150 dX11_renew_149 rfl rfl ?_
          refine e_geti (j := 12) 153 fl_11_235 dX11_renew_150 (at_pledge (by omega) (by omega)) (by decide) rfl rfl (fun r150 => ?_)
          simp (disch := omega) only [jset_k, jset_j, jset_same, true_and, and_true, cKill_o, rKill_o, cEnter] at r150 ⊢
          refine e_iload 155 dX11_renew_153 rfl rfl ?_
          refine e_iadd 156 dX11_renew_155 rfl ?_
          refine e_putw (j := 12) 159 fl_11_235 dX11_renew_156 (at_pledge (by omega) (by omega)) rfl rfl rfl rfl ?_
          refine e_aload_n (i := 0) 160 dX11_renew_159 rfl rfl rfl ?_
          refine e_getr (j := 0) 163 fl_11_10 dX11_renew_160 at_0 rfl rfl tp_0_0 rfl ?_
          refine e_iconst 164 dX11_renew_163 rfl ?_
          refine e_iload 166 dX11_renew_164 rfl rfl ?_
          refine e_callV 169 mt_yX8_enter mv_yX8_enter wd_836 (by decide) dX11_renew_166 at_1 jc_8 rfl rfl rfl (Nat.le_of_ble_eq_true rfl) (jroom (by decide)) rfl (c_enter (by decide) (by (try simp (disch := omega) only [jset_k, jset_j, jset_same, true_and, and_true, cKill_o, rKill_o, cEnter]); omega) ?_)
          dsimp only [jpush]
          (try simp (disch := omega) only [jset_k, jset_j, jset_same, true_and, and_true, cKill_o, rKill_o, cEnter])
          refine e_aload_n (i := 0) 170 dX11_renew_169 rfl rfl rfl ?_
          refine e_getr (j := 0) 173 fl_11_10 dX11_renew_170 at_0 rfl rfl tp_0_0 rfl ?_
          refine e_iconst 174 dX11_renew_173 rfl ?_
          refine e_iload 176 dX11_renew_174 rfl rfl ?_
          refine e_callV 179 mt_yX8_enter mv_yX8_enter wd_836 (by decide) dX11_renew_176 at_1 jc_8 rfl rfl rfl (Nat.le_of_ble_eq_true rfl) (jroom (by decide)) rfl (c_enter (by decide) (by (try simp (disch := omega) only [jset_k, jset_j, jset_same, true_and, and_true, cKill_o, rKill_o, cEnter]); omega) ?_)
          dsimp only [jpush]
          (try simp (disch := omega) only [jset_k, jset_j, jset_same, true_and, and_true, cKill_o, rKill_o, cEnter])
          refine e_aload_n (i := 3) 180 dX11_renew_179 rfl rfl rfl ?_
          refine e_iconst 181 dX11_renew_180 rfl ?_
          refine e_putz (j := 3) 184 fl_11_238 dX11_renew_181 (at_ticket (by omega) (by omega)) rfl rfl rfl (by decide) rfl ?_
          refine e_aload_n (i := 0) 185 dX11_renew_184 rfl rfl rfl ?_
          refine e_getr (j := 0) 188 fl_11_10 dX11_renew_185 at_0 rfl rfl tp_0_0 rfl ?_
          refine e_aload_n (i := 3) 189 dX11_renew_188 rfl rfl rfl ?_
          refine e_geti (j := 0) 192 fl_11_192 dX11_renew_189 (at_ticket (by omega) (by omega)) (by decide) rfl rfl (fun r189 => ?_)
          simp (disch := omega) only [jset_k, jset_j, jset_same, true_and, and_true, cKill_o, rKill_o, cEnter] at r189 ⊢
          refine e_aload_n (i := 3) 193 dX11_renew_192 rfl rfl rfl ?_
          refine e_geti (j := 1) 196 fl_11_197 dX11_renew_193 (at_ticket (by omega) (by omega)) (by decide) rfl rfl (fun r193 => ?_)
          simp (disch := omega) only [jset_k, jset_j, jset_same, true_and, and_true, cKill_o, rKill_o, cEnter] at r193 ⊢
          refine e_callV 199 mt_yX8_issue mv_yX8_issue wd_849 (by decide) dX11_renew_196 at_1 jc_8 rfl rfl rfl (Nat.le_of_ble_eq_true rfl) (jroom (by decide)) rfl (c_issue (by (try simp (disch := omega) only [jset_k, jset_j, jset_same, true_and, and_true, cKill_o, rKill_o, cEnter]); omega) (by (try simp (disch := omega) only [jset_k, jset_j, jset_same, true_and, and_true, cKill_o, rKill_o, cEnter]); omega) (by (try simp (disch := omega) only [jset_k, jset_j, jset_same, true_and, and_true, cKill_o, rKill_o, cEnter]); omega) ?_)
          dsimp only [jpush]
          (try simp (disch := omega) only [jset_k, jset_j, jset_same, true_and, and_true, cKill_o, rKill_o, cEnter])
          refine e_iret dX11_renew_199 ?_
          refine mem_gen (P := fun M1 => jCt yX12_renew cX12_renew 6 (some .int) 3 [jR 928, jI number] M1 (fun z2 M2 => _ = z2 ∧ Inv M2)) (fun M1 hM1 => ?_)
          have hA : M1 929 = M 929 := by rw [hM1]; simp (disch := first | omega | (simp (disch := omega) only [jset_k, jset_j, jset_same, true_and, and_true, cKill_o, rKill_o]; omega)) only [rGive_929, rKill_929, jset_929, cGive_hi, cKill_hi, cEnter_hi, jset_row]
          have hT : M1 928 0 = 0 := by rw [hM1]; simp (disch := first | omega | (simp (disch := omega) only [jset_k, jset_j, jset_same, true_and, and_true, cKill_o, rKill_o]; omega)) only [rGive_929, rKill_929, jset_929, cGive_hi, cKill_hi, cEnter_hi, jset_row]; exact hI.1
          refine jCt_of mt_yX12_renew (Nat.le_of_ble_eq_true rfl) (fun X2 => ?_)
          refine e_aload_n (i := 0) 1 dX12_renew_0 rfl rfl rfl ?_
          refine e_iconst 2 dX12_renew_1 rfl ?_
          refine e_put0 (j := 0) 5 fl_12_1 dX12_renew_2 at_928 rfl rfl rfl (by decide) (by first | exact hT | (simp (disch := omega) only [jset_k, jset_j, jset_same, true_and, and_true, hA, cKill_o, rKill_o, cEnter]; exact hT)) rfl ?_
          refine e_aload_n (i := 0) 6 dX12_renew_5 rfl rfl rfl ?_
          refine e_iload_n (i := 1) 7 dX12_renew_6 rfl rfl rfl ?_
          refine e_callV 10 mt_yX12_stateOf mv_yX12_stateOf wd_1535 (by decide) dX12_renew_7 at_928 jc_12 rfl rfl rfl (Nat.le_of_ble_eq_true rfl) (jroom (by decide)) rfl (m_stateOf (by (try simp (disch := omega) only [jset_k, jset_j, jset_same, true_and, and_true, hA, cKill_o, rKill_o, cEnter]); omega) (by simp (disch := omega) only [jset_k, jset_j, jset_same, true_and, and_true, hA, cKill_o, rKill_o, cEnter]; exact hg.2.2.2.1) (fun t a b => by simp (disch := omega) only [jset_k, jset_j, jset_same, true_and, and_true, hA, cKill_o, rKill_o, cEnter] at b ⊢; exact (hC.tk a b).2.2.2.1) (fun w7 => ?_) (fun w7 => ?_) (fun w7 => ?_) (fun w7 => ?_))
          · (try simp (disch := omega) only [jset_k, jset_j, jset_same, true_and, and_true, hA, cKill_o, rKill_o, cEnter] at w7)
            (exfalso; (try simp only [tkBad, tkGood] at *); omega)
          · (try simp (disch := omega) only [jset_k, jset_j, jset_same, true_and, and_true, hA, cKill_o, rKill_o, cEnter] at w7)
            (exfalso; (try simp only [tkBad, tkGood] at *); omega)
          · (try simp (disch := omega) only [jset_k, jset_j, jset_same, true_and, and_true, hA, cKill_o, rKill_o, cEnter] at w7)
            (exfalso; (try simp only [tkBad, tkGood] at *); omega)
          · dsimp only [jpush]
            (try simp (disch := omega) only [jset_k, jset_j, jset_same, true_and, and_true, hA, cKill_o, rKill_o, cEnter] at w7)
            (try simp (disch := omega) only [jset_k, jset_j, jset_same, true_and, and_true, hA, cKill_o, rKill_o, cEnter])
            first
             | (exfalso; omega)
             | (skip
                refine e_if_eq 13 16 dX12_renew_10 (by decide) (by decide) rfl (fun _ => ?_) (fun h => absurd h (by decide))
                refine e_aload_n (i := 0) 17 dX12_renew_16 rfl rfl rfl ?_
                refine e_getr (j := 1) 20 fl_12_13 dX12_renew_17 at_928 rfl rfl tp_928_1 rfl ?_
                refine e_sipush 23 dX12_renew_20 (by decide) rfl ?_
                refine e_iald 24 dX12_renew_23 ar_929 (by decide) (by decide) rfl (fun r23 => ?_)
                simp (disch := omega) only [jset_k, jset_j, jset_same, true_and, and_true, hA, cKill_o, rKill_o, cEnter] at r23 ⊢
                refine e_sipush 27 dX12_renew_24 (by decide) rfl ?_
                refine e_icmp_ne 30 33 dX12_renew_27 (by omega) (by decide) (by decide) rfl (fun b27 => ?_) (fun b27 => ?_)
                · first
                   | (exfalso; omega)
                   | (skip
                      refine e_iload_n (i := 1) 34 dX12_renew_33 rfl rfl rfl ?_
                      refine e_bipush 36 dX12_renew_34 (by decide) rfl ?_
                      have hg2 := w7.1
                      unfold tkGood at hg2
                      have ed : number.tdiv 100 = number / 100 := Int.tdiv_eq_ediv_of_nonneg (by omega)
                      refine e_idiv 37 dX12_renew_36 (by omega) (by decide) (by decide) rfl ?_
                      refine e_iconst 38 dX12_renew_37 rfl ?_
                      refine e_isub 39 dX12_renew_38 rfl ?_
                      rw [ed]
                      refine e_istore_n (i := 2) (lsn := [(2, _), (0, _), (1, _)]) 40 dX12_renew_39 rfl (by decide) rfl rfl ?_
                      refine e_aload_n (i := 0) 41 dX12_renew_40 rfl rfl rfl ?_
                      refine e_getr (j := 1) 44 fl_12_13 dX12_renew_41 at_928 rfl rfl tp_928_1 rfl ?_
                      refine e_sipush 47 dX12_renew_44 (by decide) rfl ?_
                      refine e_iload_n (i := 2) 48 dX12_renew_47 rfl rfl rfl ?_
                      refine e_iadd 49 dX12_renew_48 rfl ?_
                      refine e_iald 50 dX12_renew_49 ar_929 (by omega) (by omega) rfl (fun r49 => ?_)
                      simp (disch := omega) only [jset_k, jset_j, jset_same, true_and, and_true, hA, cKill_o, rKill_o, cEnter] at r49 ⊢
                      refine e_istore_n (i := 3) (lsn := [(3, _), (2, _), (0, _), (1, _)]) 51 dX12_renew_50 rfl (by decide) rfl rfl ?_
                      refine e_aload_n (i := 0) 52 dX12_renew_51 rfl rfl rfl ?_
                      refine e_getr (j := 1) 55 fl_12_13 dX12_renew_52 at_928 rfl rfl tp_928_1 rfl ?_
                      refine e_sipush 58 dX12_renew_55 (by decide) rfl ?_
                      refine e_iload_n (i := 2) 59 dX12_renew_58 rfl rfl rfl ?_
                      refine e_iadd 60 dX12_renew_59 rfl ?_
                      refine e_iald 61 dX12_renew_60 ar_929 (by omega) (by omega) rfl (fun r60 => ?_)
                      simp (disch := omega) only [jset_k, jset_j, jset_same, true_and, and_true, hA, cKill_o, rKill_o, cEnter] at r60 ⊢
                      refine e_istore (lsn := [(4, _), (3, _), (2, _), (0, _), (1, _)]) 63 dX12_renew_61 (by decide) rfl rfl ?_
                      refine e_aload_n (i := 0) 64 dX12_renew_63 rfl rfl rfl ?_
                      refine e_iload_n (i := 3) 65 dX12_renew_64 rfl rfl rfl ?_
                      refine e_callV 68 mt_yX12_interestOf mv_yX12_interestOf wd_1551 (by decide) dX12_renew_65 at_928 jc_12 rfl rfl rfl (Nat.le_of_ble_eq_true rfl) (jroom (by decide)) rfl (m_interestOf (by first | exact hC.1.okP (by (try simp (disch := omega) only [jset_k, jset_j, jset_same, true_and, and_true, hA, cKill_o, rKill_o, cEnter]); omega) (by (try simp (disch := omega) only [jset_k, jset_j, jset_same, true_and, and_true, hA, cKill_o, rKill_o, cEnter]); omega) | (rw [hA]; exact hC.1.okP (by (try simp (disch := omega) only [jset_k, jset_j, jset_same, true_and, and_true, hA, cKill_o, rKill_o, cEnter]); omega) (by (try simp (disch := omega) only [jset_k, jset_j, jset_same, true_and, and_true, hA, cKill_o, rKill_o, cEnter]); omega))) ?_)
                      dsimp only [jpush]
                      (try simp (disch := omega) only [jset_k, jset_j, jset_same, true_and, and_true, hA, cKill_o, rKill_o, cEnter])
                      refine e_istore (lsn := [(5, _), (4, _), (3, _), (2, _), (0, _), (1, _)]) 70 dX12_renew_68 (by decide) rfl rfl ?_
                      refine e_aload_n (i := 0) 71 dX12_renew_70 rfl rfl rfl ?_
                      refine e_getr (j := 1) 74 fl_12_13 dX12_renew_71 at_928 rfl rfl tp_928_1 rfl ?_
                      refine e_sipush 77 dX12_renew_74 (by decide) rfl ?_
                      refine e_iload 79 dX12_renew_77 rfl rfl ?_
                      refine e_iadd 80 dX12_renew_79 rfl ?_
                      refine e_iald 81 dX12_renew_80 ar_929 (by omega) (by omega) rfl (fun r80 => ?_)
                      simp (disch := omega) only [jset_k, jset_j, jset_same, true_and, and_true, hA, cKill_o, rKill_o, cEnter] at r80 ⊢
                      refine e_iload 83 dX12_renew_81 rfl rfl ?_
                      refine e_aload_n (i := 0) 84 dX12_renew_83 rfl rfl rfl ?_
                      refine e_getr (j := 1) 87 fl_12_13 dX12_renew_84 at_928 rfl rfl tp_928_1 rfl ?_
                      refine e_bipush 89 dX12_renew_87 (by decide) rfl ?_
                      refine e_iald 90 dX12_renew_89 ar_929 (by decide) (by decide) rfl (fun r89 => ?_)
                      simp (disch := omega) only [jset_k, jset_j, jset_same, true_and, and_true, hA, cKill_o, rKill_o, cEnter] at r89 ⊢
                      refine e_iadd 91 dX12_renew_90 rfl ?_
                      refine e_icmp_ge 94 97 dX12_renew_91 (by omega) (by omega) (by decide) rfl (fun b91 => ?_) (fun b91 => ?_)
                      · first
                         | (exfalso; omega)
                         | (skip
                            refine e_aload_n (i := 0) 98 dX12_renew_97 rfl rfl rfl ?_
                            refine e_getr (j := 1) 101 fl_12_13 dX12_renew_98 at_928 rfl rfl tp_928_1 rfl ?_
                            refine e_sipush 104 dX12_renew_101 (by decide) rfl ?_
                            refine e_iload 106 dX12_renew_104 rfl rfl ?_
                            refine e_iadd 107 dX12_renew_106 rfl ?_
                            refine e_dup2 108 dX12_renew_107 rfl rfl rfl ?_
                            refine e_iald 109 dX12_renew_108 ar_929 (by omega) (by omega) rfl (fun r108 => ?_)
                            simp (disch := omega) only [jset_k, jset_j, jset_same, true_and, and_true, hA, cKill_o, rKill_o, cEnter] at r108 ⊢
                            refine e_iload 111 dX12_renew_109 rfl rfl ?_
                            refine e_aload_n (i := 0) 112 dX12_renew_111 rfl rfl rfl ?_
                            refine e_getr (j := 1) 115 fl_12_13 dX12_renew_112 at_928 rfl rfl tp_928_1 rfl ?_
                            refine e_bipush 117 dX12_renew_115 (by decide) rfl ?_
                            refine e_iald 118 dX12_renew_117 ar_929 (by decide) (by decide) rfl (fun r117 => ?_)
                            simp (disch := omega) only [jset_k, jset_j, jset_same, true_and, and_true, hA, cKill_o, rKill_o, cEnter] at r117 ⊢
                            refine e_iadd 119 dX12_renew_118 rfl ?_
                            refine e_isub 120 dX12_renew_119 rfl ?_
                            refine e_iastw 121 dX12_renew_120 ar_929 (by omega) (by omega) rfl ?_
                            refine e_aload_n (i := 0) 122 dX12_renew_121 rfl rfl rfl ?_
                            refine e_getr (j := 1) 125 fl_12_13 dX12_renew_122 at_928 rfl rfl tp_928_1 rfl ?_
                            refine e_sipush 128 dX12_renew_125 (by decide) rfl ?_
                            refine e_aload_n (i := 0) 129 dX12_renew_128 rfl rfl rfl ?_
                            refine e_getr (j := 1) 132 fl_12_13 dX12_renew_129 at_928 rfl rfl tp_928_1 rfl ?_
                            refine e_sipush 135 dX12_renew_132 (by decide) rfl ?_
                            refine e_iald 136 dX12_renew_135 ar_929 (by decide) (by decide) rfl (fun r135 => ?_)
                            simp (disch := omega) only [jset_k, jset_j, jset_same, true_and, and_true, hA, cKill_o, rKill_o, cEnter] at r135 ⊢
                            refine e_iadd 137 dX12_renew_136 rfl ?_
                            refine e_dup2 138 dX12_renew_137 rfl rfl rfl ?_
                            refine e_iald 139 dX12_renew_138 ar_929 (by omega) (by omega) rfl (fun r138 => ?_)
                            simp (disch := omega) only [jset_k, jset_j, jset_same, true_and, and_true, hA, cKill_o, rKill_o, cEnter] at r138 ⊢
                            refine e_iload 141 dX12_renew_139 rfl rfl ?_
                            refine e_iadd 142 dX12_renew_141 rfl ?_
                            refine e_iastw 143 dX12_renew_142 ar_929 (by omega) (by omega) rfl ?_
                            refine e_aload_n (i := 0) 144 dX12_renew_143 rfl rfl rfl ?_
                            refine e_getr (j := 1) 147 fl_12_13 dX12_renew_144 at_928 rfl rfl tp_928_1 rfl ?_
                            refine e_sipush 150 dX12_renew_147 (by decide) rfl ?_
                            refine e_aload_n (i := 0) 151 dX12_renew_150 rfl rfl rfl ?_
                            refine e_getr (j := 1) 154 fl_12_13 dX12_renew_151 at_928 rfl rfl tp_928_1 rfl ?_
                            refine e_sipush 157 dX12_renew_154 (by decide) rfl ?_
                            refine e_iald 158 dX12_renew_157 ar_929 (by decide) (by decide) rfl (fun r157 => ?_)
                            simp (disch := omega) only [jset_k, jset_j, jset_same, true_and, and_true, hA, cKill_o, rKill_o, cEnter] at r157 ⊢
                            refine e_iadd 159 dX12_renew_158 rfl ?_
                            refine e_dup2 160 dX12_renew_159 rfl rfl rfl ?_
                            refine e_iald 161 dX12_renew_160 ar_929 (by omega) (by omega) rfl (fun r160 => ?_)
                            simp (disch := omega) only [jset_k, jset_j, jset_same, true_and, and_true, hA, cKill_o, rKill_o, cEnter] at r160 ⊢
                            refine e_iload 163 dX12_renew_161 rfl rfl ?_
                            refine e_iadd 164 dX12_renew_163 rfl ?_
                            refine e_iastw 165 dX12_renew_164 ar_929 (by omega) (by omega) rfl ?_
                            refine e_aload_n (i := 0) 166 dX12_renew_165 rfl rfl rfl ?_
                            refine e_getr (j := 1) 169 fl_12_13 dX12_renew_166 at_928 rfl rfl tp_928_1 rfl ?_
                            refine e_sipush 172 dX12_renew_169 (by decide) rfl ?_
                            refine e_iload_n (i := 3) 173 dX12_renew_172 rfl rfl rfl ?_
                            refine e_iadd 174 dX12_renew_173 rfl ?_
                            refine e_aload_n (i := 0) 175 dX12_renew_174 rfl rfl rfl ?_
                            refine e_getr (j := 1) 178 fl_12_13 dX12_renew_175 at_928 rfl rfl tp_928_1 rfl ?_
                            refine e_sipush 181 dX12_renew_178 (by decide) rfl ?_
                            refine e_iald 182 dX12_renew_181 ar_929 (by decide) (by decide) rfl (fun r181 => ?_)
                            simp (disch := omega) only [jset_k, jset_j, jset_same, true_and, and_true, hA, cKill_o, rKill_o, cEnter] at r181 ⊢
                            refine e_iast 183 dX12_renew_182 ar_929 (by omega) (by omega) (by omega) rfl ?_
                            refine e_aload_n (i := 0) 184 dX12_renew_183 rfl rfl rfl ?_
                            refine e_getr (j := 1) 187 fl_12_13 dX12_renew_184 at_928 rfl rfl tp_928_1 rfl ?_
                            refine e_sipush 190 dX12_renew_187 (by decide) rfl ?_
                            refine e_iload_n (i := 3) 191 dX12_renew_190 rfl rfl rfl ?_
                            refine e_iadd 192 dX12_renew_191 rfl ?_
                            refine e_dup2 193 dX12_renew_192 rfl rfl rfl ?_
                            refine e_iald 194 dX12_renew_193 ar_929 (by omega) (by omega) rfl (fun r193 => ?_)
                            simp (disch := omega) only [jset_k, jset_j, jset_same, true_and, and_true, hA, cKill_o, rKill_o, cEnter] at r193 ⊢
                            refine e_iconst 195 dX12_renew_194 rfl ?_
                            refine e_iadd 196 dX12_renew_195 rfl ?_
                            refine e_iastw 197 dX12_renew_196 ar_929 (by omega) (by omega) rfl ?_
                            refine e_aload_n (i := 0) 198 dX12_renew_197 rfl rfl rfl ?_
                            refine e_getr (j := 1) 201 fl_12_13 dX12_renew_198 at_928 rfl rfl tp_928_1 rfl ?_
                            refine e_sipush 204 dX12_renew_201 (by decide) rfl ?_
                            refine e_iload_n (i := 3) 205 dX12_renew_204 rfl rfl rfl ?_
                            refine e_iadd 206 dX12_renew_205 rfl ?_
                            refine e_dup2 207 dX12_renew_206 rfl rfl rfl ?_
                            refine e_iald 208 dX12_renew_207 ar_929 (by omega) (by omega) rfl (fun r207 => ?_)
                            simp (disch := omega) only [jset_k, jset_j, jset_same, true_and, and_true, hA, cKill_o, rKill_o, cEnter] at r207 ⊢
                            refine e_iload 210 dX12_renew_208 rfl rfl ?_
                            refine e_iadd 211 dX12_renew_210 rfl ?_
                            refine e_iastw 212 dX12_renew_211 ar_929 (by omega) (by omega) rfl ?_
                            refine e_aload_n (i := 0) 213 dX12_renew_212 rfl rfl rfl ?_
                            refine e_getr (j := 1) 216 fl_12_13 dX12_renew_213 at_928 rfl rfl tp_928_1 rfl ?_
                            refine e_sipush 219 dX12_renew_216 (by decide) rfl ?_
                            refine e_iload_n (i := 2) 220 dX12_renew_219 rfl rfl rfl ?_
                            refine e_iadd 221 dX12_renew_220 rfl ?_
                            refine e_iconst 222 dX12_renew_221 rfl ?_
                            refine e_iast 223 dX12_renew_222 ar_929 (by omega) (by omega) (by decide) rfl ?_
                            refine e_aload_n (i := 0) 224 dX12_renew_223 rfl rfl rfl ?_
                            refine e_iload_n (i := 3) 225 dX12_renew_224 rfl rfl rfl ?_
                            refine e_iload 227 dX12_renew_225 rfl rfl ?_
                            refine e_callV 230 mt_yX12_gives mv_yX12_gives wd_1524 (by decide) dX12_renew_227 at_928 jc_12 rfl rfl rfl (Nat.le_of_ble_eq_true rfl) (jroom (by decide)) rfl (m_gives (by (try simp (disch := omega) only [jset_k, jset_j, jset_same, true_and, and_true, hA, cKill_o, rKill_o, cEnter]); omega) (by (try simp (disch := omega) only [jset_k, jset_j, jset_same, true_and, and_true, hA, cKill_o, rKill_o, cEnter]); omega) (by (try simp (disch := omega) only [jset_k, jset_j, jset_same, true_and, and_true, hA, cKill_o, rKill_o, cEnter]); omega) ?_)
                            dsimp only [jpush]
                            (try simp (disch := omega) only [jset_k, jset_j, jset_same, true_and, and_true, hA, cKill_o, rKill_o, cEnter])
                            refine e_iret dX12_renew_230 ?_
                            first
                              | (exact ⟨by omega, hI⟩)
                              | (exfalso; omega)
                              | ((try subst hM1)
                                 refine ⟨by first | omega | exact congrArg tkNum (by omega), ?_⟩
                                 have s1 := step_purse hI (q := M 929 (1461 + (number / 100 - 1))) (v := w32 (M 929 (692 + M 929 (1461 + (number / 100 - 1))) - (rI (M 929) (M 929 (1311 + (number / 100 - 1))) + M 929 26))) (by omega) rfl
                                 have s2 := step_renew s1 (p := M 929 (1311 + (number / 100 - 1))) (v := w32 (M 929 (3775 + M 929 (1311 + (number / 100 - 1))) + 1)) (u := w32 (M 929 (3835 + M 929 (1311 + (number / 100 - 1))) + rI (M 929) (M 929 (1311 + (number / 100 - 1))))) (b1 := w32 (M 929 (2083 + M 929 708) + rI (M 929) (M 929 (1311 + (number / 100 - 1))))) (b5 := w32 (M 929 (3287 + M 929 708) + rI (M 929) (M 929 (1311 + (number / 100 - 1))))) (by (try simp (disch := omega) only [jset_k, jset_j, jset_same, true_and, and_true, cKill_o, rKill_o]); try omega)
                                 simp (disch := omega) only [jset_k (k' := 929) (j' := 708), jset_j (j' := 708)] at s2
                                 have s3 := step_live s2 (t := number / 100 - 1) (by (try simp (disch := omega) only [jset_k, jset_j, jset_same, true_and, and_true, cKill_o, rKill_o]); try omega)
                                 have s4 := step_give s3 (p := M 929 (1311 + (number / 100 - 1))) (q := M 929 (1461 + (number / 100 - 1))) (by (try simp (disch := omega) only [jset_k, jset_j, jset_same, true_and, and_true, cKill_o, rKill_o]); try omega) (by (try simp (disch := omega) only [jset_k, jset_j, jset_same, true_and, and_true, cKill_o, rKill_o]); try omega) (by (try simp (disch := omega) only [jset_k, jset_j, jset_same, true_and, and_true, cKill_o, rKill_o]); try omega)
                                 refine inv_eq s4 ?_ ?_
                                 · repeat (first | exact Ceq.rf | refine Ceq.lg ?_ | refine Ceq.rg ?_ | refine Ceq.lk ?_ | refine Ceq.rk ?_ | refine Ceq.lr ?_ | refine Ceq.rr ?_ | refine Ceq.give ?_ (by omega) (by omega) | refine Ceq.kill ?_ (by omega) (by omega) | refine Ceq.set ?_ (by omega) (by omega) (by first | rfl | omega | exact congrArg w32 (by omega)))
                                 · simp (disch := first | omega | (simp (disch := omega) only [jset_k, jset_j, jset_same, true_and, and_true, cKill_o, rKill_o]; omega)) only [rGive_929, rKill_929, jset_929, cGive_hi, cKill_hi, cEnter_hi, jset_row]))
                      · first
                         | (exfalso; omega)
                         | (skip
                            refine e_bipush 96 dX12_renew_94 (by decide) rfl ?_
                            refine e_iret dX12_renew_96 ?_
                            first
                              | (exact ⟨by omega, hI⟩)
                              | (exfalso; omega)
                              | ((try subst hM1)
                                 refine ⟨by first | omega | exact congrArg tkNum (by omega), ?_⟩
                                 have s1 := step_purse hI (q := M 929 (1461 + (number / 100 - 1))) (v := w32 (M 929 (692 + M 929 (1461 + (number / 100 - 1))) - (rI (M 929) (M 929 (1311 + (number / 100 - 1))) + M 929 26))) (by omega) rfl
                                 have s2 := step_renew s1 (p := M 929 (1311 + (number / 100 - 1))) (v := w32 (M 929 (3775 + M 929 (1311 + (number / 100 - 1))) + 1)) (u := w32 (M 929 (3835 + M 929 (1311 + (number / 100 - 1))) + rI (M 929) (M 929 (1311 + (number / 100 - 1))))) (b1 := w32 (M 929 (2083 + M 929 708) + rI (M 929) (M 929 (1311 + (number / 100 - 1))))) (b5 := w32 (M 929 (3287 + M 929 708) + rI (M 929) (M 929 (1311 + (number / 100 - 1))))) (by (try simp (disch := omega) only [jset_k, jset_j, jset_same, true_and, and_true, cKill_o, rKill_o]); try omega)
                                 simp (disch := omega) only [jset_k (k' := 929) (j' := 708), jset_j (j' := 708)] at s2
                                 have s3 := step_live s2 (t := number / 100 - 1) (by (try simp (disch := omega) only [jset_k, jset_j, jset_same, true_and, and_true, cKill_o, rKill_o]); try omega)
                                 have s4 := step_give s3 (p := M 929 (1311 + (number / 100 - 1))) (q := M 929 (1461 + (number / 100 - 1))) (by (try simp (disch := omega) only [jset_k, jset_j, jset_same, true_and, and_true, cKill_o, rKill_o]); try omega) (by (try simp (disch := omega) only [jset_k, jset_j, jset_same, true_and, and_true, cKill_o, rKill_o]); try omega) (by (try simp (disch := omega) only [jset_k, jset_j, jset_same, true_and, and_true, cKill_o, rKill_o]); try omega)
                                 refine inv_eq s4 ?_ ?_
                                 · repeat (first | exact Ceq.rf | refine Ceq.lg ?_ | refine Ceq.rg ?_ | refine Ceq.lk ?_ | refine Ceq.rk ?_ | refine Ceq.lr ?_ | refine Ceq.rr ?_ | refine Ceq.give ?_ (by omega) (by omega) | refine Ceq.kill ?_ (by omega) (by omega) | refine Ceq.set ?_ (by omega) (by omega) (by first | rfl | omega | exact congrArg w32 (by omega)))
                                 · simp (disch := first | omega | (simp (disch := omega) only [jset_k, jset_j, jset_same, true_and, and_true, cKill_o, rKill_o]; omega)) only [rGive_929, rKill_929, jset_929, cGive_hi, cKill_hi, cEnter_hi, jset_row])))
                · first
                   | (exfalso; omega)
                   | (skip
                      refine e_bipush 32 dX12_renew_30 (by decide) rfl ?_
                      refine e_iret dX12_renew_32 ?_
                      first
                        | (exact ⟨by omega, hI⟩)
                        | (exfalso; omega)
                        | ((try subst hM1)
                           refine ⟨by first | omega | exact congrArg tkNum (by omega), ?_⟩
                           have s1 := step_purse hI (q := M 929 (1461 + (number / 100 - 1))) (v := w32 (M 929 (692 + M 929 (1461 + (number / 100 - 1))) - (rI (M 929) (M 929 (1311 + (number / 100 - 1))) + M 929 26))) (by omega) rfl
                           have s2 := step_renew s1 (p := M 929 (1311 + (number / 100 - 1))) (v := w32 (M 929 (3775 + M 929 (1311 + (number / 100 - 1))) + 1)) (u := w32 (M 929 (3835 + M 929 (1311 + (number / 100 - 1))) + rI (M 929) (M 929 (1311 + (number / 100 - 1))))) (b1 := w32 (M 929 (2083 + M 929 708) + rI (M 929) (M 929 (1311 + (number / 100 - 1))))) (b5 := w32 (M 929 (3287 + M 929 708) + rI (M 929) (M 929 (1311 + (number / 100 - 1))))) (by (try simp (disch := omega) only [jset_k, jset_j, jset_same, true_and, and_true, cKill_o, rKill_o]); try omega)
                           simp (disch := omega) only [jset_k (k' := 929) (j' := 708), jset_j (j' := 708)] at s2
                           have s3 := step_live s2 (t := number / 100 - 1) (by (try simp (disch := omega) only [jset_k, jset_j, jset_same, true_and, and_true, cKill_o, rKill_o]); try omega)
                           have s4 := step_give s3 (p := M 929 (1311 + (number / 100 - 1))) (q := M 929 (1461 + (number / 100 - 1))) (by (try simp (disch := omega) only [jset_k, jset_j, jset_same, true_and, and_true, cKill_o, rKill_o]); try omega) (by (try simp (disch := omega) only [jset_k, jset_j, jset_same, true_and, and_true, cKill_o, rKill_o]); try omega) (by (try simp (disch := omega) only [jset_k, jset_j, jset_same, true_and, and_true, cKill_o, rKill_o]); try omega)
                           refine inv_eq s4 ?_ ?_
                           · repeat (first | exact Ceq.rf | refine Ceq.lg ?_ | refine Ceq.rg ?_ | refine Ceq.lk ?_ | refine Ceq.rk ?_ | refine Ceq.lr ?_ | refine Ceq.rr ?_ | refine Ceq.give ?_ (by omega) (by omega) | refine Ceq.kill ?_ (by omega) (by omega) | refine Ceq.set ?_ (by omega) (by omega) (by first | rfl | omega | exact congrArg w32 (by omega)))
                           · simp (disch := first | omega | (simp (disch := omega) only [jset_k, jset_j, jset_same, true_and, and_true, cKill_o, rKill_o]; omega)) only [rGive_929, rKill_929, jset_929, cGive_hi, cKill_hi, cEnter_hi, jset_row])))
        · skip
          refine e_bipush 111 dX11_renew_109 (by decide) rfl ?_
          refine e_iret dX11_renew_111 ?_
          refine jCt_of mt_yX12_renew (Nat.le_of_ble_eq_true rfl) (fun X2 => ?_)
          refine e_aload_n (i := 0) 1 dX12_renew_0 rfl rfl rfl ?_
          refine e_iconst 2 dX12_renew_1 rfl ?_
          refine e_put0 (j := 0) 5 fl_12_1 dX12_renew_2 at_928 rfl rfl rfl (by decide) hI.1 rfl ?_
          refine e_aload_n (i := 0) 6 dX12_renew_5 rfl rfl rfl ?_
          refine e_iload_n (i := 1) 7 dX12_renew_6 rfl rfl rfl ?_
          refine e_callV 10 mt_yX12_stateOf mv_yX12_stateOf wd_1535 (by decide) dX12_renew_7 at_928 jc_12 rfl rfl rfl (Nat.le_of_ble_eq_true rfl) (jroom (by decide)) rfl (m_stateOf (by omega) hg.2.2.2.1 (fun t a b => (hC.tk a b).2.2.2.1) (fun w7 => ?_) (fun w7 => ?_) (fun w7 => ?_) (fun w7 => ?_))
          · (exfalso; (try simp only [tkBad, tkGood] at *); omega)
          · (exfalso; (try simp only [tkBad, tkGood] at *); omega)
          · (exfalso; (try simp only [tkBad, tkGood] at *); omega)
          · dsimp only [jpush]
            first
             | (exfalso; omega)
             | (skip
                refine e_if_eq 13 16 dX12_renew_10 (by decide) (by decide) rfl (fun _ => ?_) (fun h => absurd h (by decide))
                refine e_aload_n (i := 0) 17 dX12_renew_16 rfl rfl rfl ?_
                refine e_getr (j := 1) 20 fl_12_13 dX12_renew_17 at_928 rfl rfl tp_928_1 rfl ?_
                refine e_sipush 23 dX12_renew_20 (by decide) rfl ?_
                refine e_iald 24 dX12_renew_23 ar_929 (by decide) (by decide) rfl (fun r23 => ?_)
                refine e_sipush 27 dX12_renew_24 (by decide) rfl ?_
                refine e_icmp_ne 30 33 dX12_renew_27 (by omega) (by decide) (by decide) rfl (fun b27 => ?_) (fun b27 => ?_)
                · first
                   | (exfalso; omega)
                   | (skip
                      refine e_iload_n (i := 1) 34 dX12_renew_33 rfl rfl rfl ?_
                      refine e_bipush 36 dX12_renew_34 (by decide) rfl ?_
                      have hg2 := w7.1
                      unfold tkGood at hg2
                      have ed : number.tdiv 100 = number / 100 := Int.tdiv_eq_ediv_of_nonneg (by omega)
                      refine e_idiv 37 dX12_renew_36 (by omega) (by decide) (by decide) rfl ?_
                      refine e_iconst 38 dX12_renew_37 rfl ?_
                      refine e_isub 39 dX12_renew_38 rfl ?_
                      rw [ed]
                      refine e_istore_n (i := 2) (lsn := [(2, _), (0, _), (1, _)]) 40 dX12_renew_39 rfl (by decide) rfl rfl ?_
                      refine e_aload_n (i := 0) 41 dX12_renew_40 rfl rfl rfl ?_
                      refine e_getr (j := 1) 44 fl_12_13 dX12_renew_41 at_928 rfl rfl tp_928_1 rfl ?_
                      refine e_sipush 47 dX12_renew_44 (by decide) rfl ?_
                      refine e_iload_n (i := 2) 48 dX12_renew_47 rfl rfl rfl ?_
                      refine e_iadd 49 dX12_renew_48 rfl ?_
                      refine e_iald 50 dX12_renew_49 ar_929 (by omega) (by omega) rfl (fun r49 => ?_)
                      refine e_istore_n (i := 3) (lsn := [(3, _), (2, _), (0, _), (1, _)]) 51 dX12_renew_50 rfl (by decide) rfl rfl ?_
                      refine e_aload_n (i := 0) 52 dX12_renew_51 rfl rfl rfl ?_
                      refine e_getr (j := 1) 55 fl_12_13 dX12_renew_52 at_928 rfl rfl tp_928_1 rfl ?_
                      refine e_sipush 58 dX12_renew_55 (by decide) rfl ?_
                      refine e_iload_n (i := 2) 59 dX12_renew_58 rfl rfl rfl ?_
                      refine e_iadd 60 dX12_renew_59 rfl ?_
                      refine e_iald 61 dX12_renew_60 ar_929 (by omega) (by omega) rfl (fun r60 => ?_)
                      refine e_istore (lsn := [(4, _), (3, _), (2, _), (0, _), (1, _)]) 63 dX12_renew_61 (by decide) rfl rfl ?_
                      refine e_aload_n (i := 0) 64 dX12_renew_63 rfl rfl rfl ?_
                      refine e_iload_n (i := 3) 65 dX12_renew_64 rfl rfl rfl ?_
                      refine e_callV 68 mt_yX12_interestOf mv_yX12_interestOf wd_1551 (by decide) dX12_renew_65 at_928 jc_12 rfl rfl rfl (Nat.le_of_ble_eq_true rfl) (jroom (by decide)) rfl (m_interestOf (by first | exact hC.1.okP (by omega) (by omega) | (rw [hA]; exact hC.1.okP (by omega) (by omega))) ?_)
                      dsimp only [jpush]
                      refine e_istore (lsn := [(5, _), (4, _), (3, _), (2, _), (0, _), (1, _)]) 70 dX12_renew_68 (by decide) rfl rfl ?_
                      refine e_aload_n (i := 0) 71 dX12_renew_70 rfl rfl rfl ?_
                      refine e_getr (j := 1) 74 fl_12_13 dX12_renew_71 at_928 rfl rfl tp_928_1 rfl ?_
                      refine e_sipush 77 dX12_renew_74 (by decide) rfl ?_
                      refine e_iload 79 dX12_renew_77 rfl rfl ?_
                      refine e_iadd 80 dX12_renew_79 rfl ?_
                      refine e_iald 81 dX12_renew_80 ar_929 (by omega) (by omega) rfl (fun r80 => ?_)
                      refine e_iload 83 dX12_renew_81 rfl rfl ?_
                      refine e_aload_n (i := 0) 84 dX12_renew_83 rfl rfl rfl ?_
                      refine e_getr (j := 1) 87 fl_12_13 dX12_renew_84 at_928 rfl rfl tp_928_1 rfl ?_
                      refine e_bipush 89 dX12_renew_87 (by decide) rfl ?_
                      refine e_iald 90 dX12_renew_89 ar_929 (by decide) (by decide) rfl (fun r89 => ?_)
                      refine e_iadd 91 dX12_renew_90 rfl ?_
                      refine e_icmp_ge 94 97 dX12_renew_91 (by omega) (by omega) (by decide) rfl (fun b91 => ?_) (fun b91 => ?_)
                      · first
                         | (exfalso; omega)
                         | (skip
                            refine e_aload_n (i := 0) 98 dX12_renew_97 rfl rfl rfl ?_
                            refine e_getr (j := 1) 101 fl_12_13 dX12_renew_98 at_928 rfl rfl tp_928_1 rfl ?_
                            refine e_sipush 104 dX12_renew_101 (by decide) rfl ?_
                            refine e_iload 106 dX12_renew_104 rfl rfl ?_
                            refine e_iadd 107 dX12_renew_106 rfl ?_
                            refine e_dup2 108 dX12_renew_107 rfl rfl rfl ?_
                            refine e_iald 109 dX12_renew_108 ar_929 (by omega) (by omega) rfl (fun r108 => ?_)
                            refine e_iload 111 dX12_renew_109 rfl rfl ?_
                            refine e_aload_n (i := 0) 112 dX12_renew_111 rfl rfl rfl ?_
                            refine e_getr (j := 1) 115 fl_12_13 dX12_renew_112 at_928 rfl rfl tp_928_1 rfl ?_
                            refine e_bipush 117 dX12_renew_115 (by decide) rfl ?_
                            refine e_iald 118 dX12_renew_117 ar_929 (by decide) (by decide) rfl (fun r117 => ?_)
                            refine e_iadd 119 dX12_renew_118 rfl ?_
                            refine e_isub 120 dX12_renew_119 rfl ?_
                            refine e_iastw 121 dX12_renew_120 ar_929 (by omega) (by omega) rfl ?_
                            refine e_aload_n (i := 0) 122 dX12_renew_121 rfl rfl rfl ?_
                            refine e_getr (j := 1) 125 fl_12_13 dX12_renew_122 at_928 rfl rfl tp_928_1 rfl ?_
                            refine e_sipush 128 dX12_renew_125 (by decide) rfl ?_
                            refine e_aload_n (i := 0) 129 dX12_renew_128 rfl rfl rfl ?_
                            refine e_getr (j := 1) 132 fl_12_13 dX12_renew_129 at_928 rfl rfl tp_928_1 rfl ?_
                            refine e_sipush 135 dX12_renew_132 (by decide) rfl ?_
                            refine e_iald 136 dX12_renew_135 ar_929 (by decide) (by decide) rfl (fun r135 => ?_)
                            simp (disch := omega) only [jset_k, jset_j, jset_same, true_and, and_true] at r135 ⊢
                            refine e_iadd 137 dX12_renew_136 rfl ?_
                            refine e_dup2 138 dX12_renew_137 rfl rfl rfl ?_
                            refine e_iald 139 dX12_renew_138 ar_929 (by omega) (by omega) rfl (fun r138 => ?_)
                            simp (disch := omega) only [jset_k, jset_j, jset_same, true_and, and_true] at r138 ⊢
                            refine e_iload 141 dX12_renew_139 rfl rfl ?_
                            refine e_iadd 142 dX12_renew_141 rfl ?_
                            refine e_iastw 143 dX12_renew_142 ar_929 (by omega) (by omega) rfl ?_
                            refine e_aload_n (i := 0) 144 dX12_renew_143 rfl rfl rfl ?_
                            refine e_getr (j := 1) 147 fl_12_13 dX12_renew_144 at_928 rfl rfl tp_928_1 rfl ?_
                            refine e_sipush 150 dX12_renew_147 (by decide) rfl ?_
                            refine e_aload_n (i := 0) 151 dX12_renew_150 rfl rfl rfl ?_
                            refine e_getr (j := 1) 154 fl_12_13 dX12_renew_151 at_928 rfl rfl tp_928_1 rfl ?_
                            refine e_sipush 157 dX12_renew_154 (by decide) rfl ?_
                            refine e_iald 158 dX12_renew_157 ar_929 (by decide) (by decide) rfl (fun r157 => ?_)
                            simp (disch := omega) only [jset_k, jset_j, jset_same, true_and, and_true] at r157 ⊢
                            refine e_iadd 159 dX12_renew_158 rfl ?_
                            refine e_dup2 160 dX12_renew_159 rfl rfl rfl ?_
                            refine e_iald 161 dX12_renew_160 ar_929 (by omega) (by omega) rfl (fun r160 => ?_)
                            simp (disch := omega) only [jset_k, jset_j, jset_same, true_and, and_true] at r160 ⊢
                            refine e_iload 163 dX12_renew_161 rfl rfl ?_
                            refine e_iadd 164 dX12_renew_163 rfl ?_
                            refine e_iastw 165 dX12_renew_164 ar_929 (by omega) (by omega) rfl ?_
                            refine e_aload_n (i := 0) 166 dX12_renew_165 rfl rfl rfl ?_
                            refine e_getr (j := 1) 169 fl_12_13 dX12_renew_166 at_928 rfl rfl tp_928_1 rfl ?_
                            refine e_sipush 172 dX12_renew_169 (by decide) rfl ?_
                            refine e_iload_n (i := 3) 173 dX12_renew_172 rfl rfl rfl ?_
                            refine e_iadd 174 dX12_renew_173 rfl ?_
                            refine e_aload_n (i := 0) 175 dX12_renew_174 rfl rfl rfl ?_
                            refine e_getr (j := 1) 178 fl_12_13 dX12_renew_175 at_928 rfl rfl tp_928_1 rfl ?_
                            refine e_sipush 181 dX12_renew_178 (by decide) rfl ?_
                            refine e_iald 182 dX12_renew_181 ar_929 (by decide) (by decide) rfl (fun r181 => ?_)
                            simp (disch := omega) only [jset_k, jset_j, jset_same, true_and, and_true] at r181 ⊢
                            refine e_iast 183 dX12_renew_182 ar_929 (by omega) (by omega) (by omega) rfl ?_
                            refine e_aload_n (i := 0) 184 dX12_renew_183 rfl rfl rfl ?_
                            refine e_getr (j := 1) 187 fl_12_13 dX12_renew_184 at_928 rfl rfl tp_928_1 rfl ?_
                            refine e_sipush 190 dX12_renew_187 (by decide) rfl ?_
                            refine e_iload_n (i := 3) 191 dX12_renew_190 rfl rfl rfl ?_
                            refine e_iadd 192 dX12_renew_191 rfl ?_
                            refine e_dup2 193 dX12_renew_192 rfl rfl rfl ?_
                            refine e_iald 194 dX12_renew_193 ar_929 (by omega) (by omega) rfl (fun r193 => ?_)
                            simp (disch := omega) only [jset_k, jset_j, jset_same, true_and, and_true] at r193 ⊢
                            refine e_iconst 195 dX12_renew_194 rfl ?_
                            refine e_iadd 196 dX12_renew_195 rfl ?_
                            refine e_iastw 197 dX12_renew_196 ar_929 (by omega) (by omega) rfl ?_
                            refine e_aload_n (i := 0) 198 dX12_renew_197 rfl rfl rfl ?_
                            refine e_getr (j := 1) 201 fl_12_13 dX12_renew_198 at_928 rfl rfl tp_928_1 rfl ?_
                            refine e_sipush 204 dX12_renew_201 (by decide) rfl ?_
                            refine e_iload_n (i := 3) 205 dX12_renew_204 rfl rfl rfl ?_
                            refine e_iadd 206 dX12_renew_205 rfl ?_
                            refine e_dup2 207 dX12_renew_206 rfl rfl rfl ?_
                            refine e_iald 208 dX12_renew_207 ar_929 (by omega) (by omega) rfl (fun r207 => ?_)
                            simp (disch := omega) only [jset_k, jset_j, jset_same, true_and, and_true] at r207 ⊢
                            refine e_iload 210 dX12_renew_208 rfl rfl ?_
                            refine e_iadd 211 dX12_renew_210 rfl ?_
                            refine e_iastw 212 dX12_renew_211 ar_929 (by omega) (by omega) rfl ?_
                            refine e_aload_n (i := 0) 213 dX12_renew_212 rfl rfl rfl ?_
                            refine e_getr (j := 1) 216 fl_12_13 dX12_renew_213 at_928 rfl rfl tp_928_1 rfl ?_
                            refine e_sipush 219 dX12_renew_216 (by decide) rfl ?_
                            refine e_iload_n (i := 2) 220 dX12_renew_219 rfl rfl rfl ?_
                            refine e_iadd 221 dX12_renew_220 rfl ?_
                            refine e_iconst 222 dX12_renew_221 rfl ?_
                            refine e_iast 223 dX12_renew_222 ar_929 (by omega) (by omega) (by decide) rfl ?_
                            refine e_aload_n (i := 0) 224 dX12_renew_223 rfl rfl rfl ?_
                            refine e_iload_n (i := 3) 225 dX12_renew_224 rfl rfl rfl ?_
                            refine e_iload 227 dX12_renew_225 rfl rfl ?_
                            refine e_callV 230 mt_yX12_gives mv_yX12_gives wd_1524 (by decide) dX12_renew_227 at_928 jc_12 rfl rfl rfl (Nat.le_of_ble_eq_true rfl) (jroom (by decide)) rfl (m_gives (by omega) (by omega) (by omega) ?_)
                            dsimp only [jpush]
                            refine e_iret dX12_renew_230 ?_
                            first
                              | (exact ⟨by omega, hI⟩)
                              | (exfalso; omega)
                              | ((try subst hM1)
                                 refine ⟨by first | omega | exact congrArg tkNum (by omega), ?_⟩
                                 have s1 := step_purse hI (q := M 929 (1461 + (number / 100 - 1))) (v := w32 (M 929 (692 + M 929 (1461 + (number / 100 - 1))) - (rI (M 929) (M 929 (1311 + (number / 100 - 1))) + M 929 26))) (by omega) rfl
                                 have s2 := step_renew s1 (p := M 929 (1311 + (number / 100 - 1))) (v := w32 (M 929 (3775 + M 929 (1311 + (number / 100 - 1))) + 1)) (u := w32 (M 929 (3835 + M 929 (1311 + (number / 100 - 1))) + rI (M 929) (M 929 (1311 + (number / 100 - 1))))) (b1 := w32 (M 929 (2083 + M 929 708) + rI (M 929) (M 929 (1311 + (number / 100 - 1))))) (b5 := w32 (M 929 (3287 + M 929 708) + rI (M 929) (M 929 (1311 + (number / 100 - 1))))) (by (try simp (disch := omega) only [jset_k, jset_j, jset_same, true_and, and_true, cKill_o, rKill_o]); try omega)
                                 simp (disch := omega) only [jset_k (k' := 929) (j' := 708), jset_j (j' := 708)] at s2
                                 have s3 := step_live s2 (t := number / 100 - 1) (by (try simp (disch := omega) only [jset_k, jset_j, jset_same, true_and, and_true, cKill_o, rKill_o]); try omega)
                                 have s4 := step_give s3 (p := M 929 (1311 + (number / 100 - 1))) (q := M 929 (1461 + (number / 100 - 1))) (by (try simp (disch := omega) only [jset_k, jset_j, jset_same, true_and, and_true, cKill_o, rKill_o]); try omega) (by (try simp (disch := omega) only [jset_k, jset_j, jset_same, true_and, and_true, cKill_o, rKill_o]); try omega) (by (try simp (disch := omega) only [jset_k, jset_j, jset_same, true_and, and_true, cKill_o, rKill_o]); try omega)
                                 refine inv_eq s4 ?_ ?_
                                 · repeat (first | exact Ceq.rf | refine Ceq.lg ?_ | refine Ceq.rg ?_ | refine Ceq.lk ?_ | refine Ceq.rk ?_ | refine Ceq.lr ?_ | refine Ceq.rr ?_ | refine Ceq.give ?_ (by omega) (by omega) | refine Ceq.kill ?_ (by omega) (by omega) | refine Ceq.set ?_ (by omega) (by omega) (by first | rfl | omega | exact congrArg w32 (by omega)))
                                 · simp (disch := first | omega | (simp (disch := omega) only [jset_k, jset_j, jset_same, true_and, and_true, cKill_o, rKill_o]; omega)) only [rGive_929, rKill_929, jset_929, cGive_hi, cKill_hi, cEnter_hi, jset_row]))
                      · first
                         | (exfalso; omega)
                         | (skip
                            refine e_bipush 96 dX12_renew_94 (by decide) rfl ?_
                            refine e_iret dX12_renew_96 ?_
                            first
                              | (exact ⟨by omega, hI⟩)
                              | (exfalso; omega)))
                · first
                   | (exfalso; omega)
                   | (skip
                      refine e_bipush 32 dX12_renew_30 (by decide) rfl ?_
                      refine e_iret dX12_renew_32 ?_
                      first
                        | (exact ⟨by omega, hI⟩)
                        | (exfalso; omega)))
      · skip
        refine e_bipush 32 dX11_renew_30 (by decide) rfl ?_
        refine e_iret dX11_renew_32 ?_
        refine jCt_of mt_yX12_renew (Nat.le_of_ble_eq_true rfl) (fun X2 => ?_)
        refine e_aload_n (i := 0) 1 dX12_renew_0 rfl rfl rfl ?_
        refine e_iconst 2 dX12_renew_1 rfl ?_
        refine e_put0 (j := 0) 5 fl_12_1 dX12_renew_2 at_928 rfl rfl rfl (by decide) hI.1 rfl ?_
        refine e_aload_n (i := 0) 6 dX12_renew_5 rfl rfl rfl ?_
        refine e_iload_n (i := 1) 7 dX12_renew_6 rfl rfl rfl ?_
        refine e_callV 10 mt_yX12_stateOf mv_yX12_stateOf wd_1535 (by decide) dX12_renew_7 at_928 jc_12 rfl rfl rfl (Nat.le_of_ble_eq_true rfl) (jroom (by decide)) rfl (m_stateOf (by omega) hg.2.2.2.1 (fun t a b => (hC.tk a b).2.2.2.1) (fun w7 => ?_) (fun w7 => ?_) (fun w7 => ?_) (fun w7 => ?_))
        · (exfalso; (try simp only [tkBad, tkGood] at *); omega)
        · (exfalso; (try simp only [tkBad, tkGood] at *); omega)
        · (exfalso; (try simp only [tkBad, tkGood] at *); omega)
        · dsimp only [jpush]
          first
           | (exfalso; omega)
           | (skip
              refine e_if_eq 13 16 dX12_renew_10 (by decide) (by decide) rfl (fun _ => ?_) (fun h => absurd h (by decide))
              refine e_aload_n (i := 0) 17 dX12_renew_16 rfl rfl rfl ?_
              refine e_getr (j := 1) 20 fl_12_13 dX12_renew_17 at_928 rfl rfl tp_928_1 rfl ?_
              refine e_sipush 23 dX12_renew_20 (by decide) rfl ?_
              refine e_iald 24 dX12_renew_23 ar_929 (by decide) (by decide) rfl (fun r23 => ?_)
              refine e_sipush 27 dX12_renew_24 (by decide) rfl ?_
              refine e_icmp_ne 30 33 dX12_renew_27 (by omega) (by decide) (by decide) rfl (fun b27 => ?_) (fun b27 => ?_)
              · first
                 | (exfalso; omega)
                 | (skip
                    refine e_iload_n (i := 1) 34 dX12_renew_33 rfl rfl rfl ?_
                    refine e_bipush 36 dX12_renew_34 (by decide) rfl ?_
                    have hg2 := w7.1
                    unfold tkGood at hg2
                    have ed : number.tdiv 100 = number / 100 := Int.tdiv_eq_ediv_of_nonneg (by omega)
                    refine e_idiv 37 dX12_renew_36 (by omega) (by decide) (by decide) rfl ?_
                    refine e_iconst 38 dX12_renew_37 rfl ?_
                    refine e_isub 39 dX12_renew_38 rfl ?_
                    rw [ed]
                    refine e_istore_n (i := 2) (lsn := [(2, _), (0, _), (1, _)]) 40 dX12_renew_39 rfl (by decide) rfl rfl ?_
                    refine e_aload_n (i := 0) 41 dX12_renew_40 rfl rfl rfl ?_
                    refine e_getr (j := 1) 44 fl_12_13 dX12_renew_41 at_928 rfl rfl tp_928_1 rfl ?_
                    refine e_sipush 47 dX12_renew_44 (by decide) rfl ?_
                    refine e_iload_n (i := 2) 48 dX12_renew_47 rfl rfl rfl ?_
                    refine e_iadd 49 dX12_renew_48 rfl ?_
                    refine e_iald 50 dX12_renew_49 ar_929 (by omega) (by omega) rfl (fun r49 => ?_)
                    refine e_istore_n (i := 3) (lsn := [(3, _), (2, _), (0, _), (1, _)]) 51 dX12_renew_50 rfl (by decide) rfl rfl ?_
                    refine e_aload_n (i := 0) 52 dX12_renew_51 rfl rfl rfl ?_
                    refine e_getr (j := 1) 55 fl_12_13 dX12_renew_52 at_928 rfl rfl tp_928_1 rfl ?_
                    refine e_sipush 58 dX12_renew_55 (by decide) rfl ?_
                    refine e_iload_n (i := 2) 59 dX12_renew_58 rfl rfl rfl ?_
                    refine e_iadd 60 dX12_renew_59 rfl ?_
                    refine e_iald 61 dX12_renew_60 ar_929 (by omega) (by omega) rfl (fun r60 => ?_)
                    refine e_istore (lsn := [(4, _), (3, _), (2, _), (0, _), (1, _)]) 63 dX12_renew_61 (by decide) rfl rfl ?_
                    refine e_aload_n (i := 0) 64 dX12_renew_63 rfl rfl rfl ?_
                    refine e_iload_n (i := 3) 65 dX12_renew_64 rfl rfl rfl ?_
                    refine e_callV 68 mt_yX12_interestOf mv_yX12_interestOf wd_1551 (by decide) dX12_renew_65 at_928 jc_12 rfl rfl rfl (Nat.le_of_ble_eq_true rfl) (jroom (by decide)) rfl (m_interestOf (by first | exact hC.1.okP (by omega) (by omega) | (rw [hA]; exact hC.1.okP (by omega) (by omega))) ?_)
                    dsimp only [jpush]
                    refine e_istore (lsn := [(5, _), (4, _), (3, _), (2, _), (0, _), (1, _)]) 70 dX12_renew_68 (by decide) rfl rfl ?_
                    refine e_aload_n (i := 0) 71 dX12_renew_70 rfl rfl rfl ?_
                    refine e_getr (j := 1) 74 fl_12_13 dX12_renew_71 at_928 rfl rfl tp_928_1 rfl ?_
                    refine e_sipush 77 dX12_renew_74 (by decide) rfl ?_
                    refine e_iload 79 dX12_renew_77 rfl rfl ?_
                    refine e_iadd 80 dX12_renew_79 rfl ?_
                    refine e_iald 81 dX12_renew_80 ar_929 (by omega) (by omega) rfl (fun r80 => ?_)
                    refine e_iload 83 dX12_renew_81 rfl rfl ?_
                    refine e_aload_n (i := 0) 84 dX12_renew_83 rfl rfl rfl ?_
                    refine e_getr (j := 1) 87 fl_12_13 dX12_renew_84 at_928 rfl rfl tp_928_1 rfl ?_
                    refine e_bipush 89 dX12_renew_87 (by decide) rfl ?_
                    refine e_iald 90 dX12_renew_89 ar_929 (by decide) (by decide) rfl (fun r89 => ?_)
                    refine e_iadd 91 dX12_renew_90 rfl ?_
                    refine e_icmp_ge 94 97 dX12_renew_91 (by omega) (by omega) (by decide) rfl (fun b91 => ?_) (fun b91 => ?_)
                    · first
                       | (exfalso; omega)
                       | (skip
                          refine e_aload_n (i := 0) 98 dX12_renew_97 rfl rfl rfl ?_
                          refine e_getr (j := 1) 101 fl_12_13 dX12_renew_98 at_928 rfl rfl tp_928_1 rfl ?_
                          refine e_sipush 104 dX12_renew_101 (by decide) rfl ?_
                          refine e_iload 106 dX12_renew_104 rfl rfl ?_
                          refine e_iadd 107 dX12_renew_106 rfl ?_
                          refine e_dup2 108 dX12_renew_107 rfl rfl rfl ?_
                          refine e_iald 109 dX12_renew_108 ar_929 (by omega) (by omega) rfl (fun r108 => ?_)
                          refine e_iload 111 dX12_renew_109 rfl rfl ?_
                          refine e_aload_n (i := 0) 112 dX12_renew_111 rfl rfl rfl ?_
                          refine e_getr (j := 1) 115 fl_12_13 dX12_renew_112 at_928 rfl rfl tp_928_1 rfl ?_
                          refine e_bipush 117 dX12_renew_115 (by decide) rfl ?_
                          refine e_iald 118 dX12_renew_117 ar_929 (by decide) (by decide) rfl (fun r117 => ?_)
                          refine e_iadd 119 dX12_renew_118 rfl ?_
                          refine e_isub 120 dX12_renew_119 rfl ?_
                          refine e_iastw 121 dX12_renew_120 ar_929 (by omega) (by omega) rfl ?_
                          refine e_aload_n (i := 0) 122 dX12_renew_121 rfl rfl rfl ?_
                          refine e_getr (j := 1) 125 fl_12_13 dX12_renew_122 at_928 rfl rfl tp_928_1 rfl ?_
                          refine e_sipush 128 dX12_renew_125 (by decide) rfl ?_
                          refine e_aload_n (i := 0) 129 dX12_renew_128 rfl rfl rfl ?_
                          refine e_getr (j := 1) 132 fl_12_13 dX12_renew_129 at_928 rfl rfl tp_928_1 rfl ?_
                          refine e_sipush 135 dX12_renew_132 (by decide) rfl ?_
                          refine e_iald 136 dX12_renew_135 ar_929 (by decide) (by decide) rfl (fun r135 => ?_)
                          simp (disch := omega) only [jset_k, jset_j, jset_same, true_and, and_true] at r135 ⊢
                          refine e_iadd 137 dX12_renew_136 rfl ?_
                          refine e_dup2 138 dX12_renew_137 rfl rfl rfl ?_
                          refine e_iald 139 dX12_renew_138 ar_929 (by omega) (by omega) rfl (fun r138 => ?_)
                          simp (disch := omega) only [jset_k, jset_j, jset_same, true_and, and_true] at r138 ⊢
                          refine e_iload 141 dX12_renew_139 rfl rfl ?_
                          refine e_iadd 142 dX12_renew_141 rfl ?_
                          refine e_iastw 143 dX12_renew_142 ar_929 (by omega) (by omega) rfl ?_
                          refine e_aload_n (i := 0) 144 dX12_renew_143 rfl rfl rfl ?_
                          refine e_getr (j := 1) 147 fl_12_13 dX12_renew_144 at_928 rfl rfl tp_928_1 rfl ?_
                          refine e_sipush 150 dX12_renew_147 (by decide) rfl ?_
                          refine e_aload_n (i := 0) 151 dX12_renew_150 rfl rfl rfl ?_
                          refine e_getr (j := 1) 154 fl_12_13 dX12_renew_151 at_928 rfl rfl tp_928_1 rfl ?_
                          refine e_sipush 157 dX12_renew_154 (by decide) rfl ?_
                          refine e_iald 158 dX12_renew_157 ar_929 (by decide) (by decide) rfl (fun r157 => ?_)
                          simp (disch := omega) only [jset_k, jset_j, jset_same, true_and, and_true] at r157 ⊢
                          refine e_iadd 159 dX12_renew_158 rfl ?_
                          refine e_dup2 160 dX12_renew_159 rfl rfl rfl ?_
                          refine e_iald 161 dX12_renew_160 ar_929 (by omega) (by omega) rfl (fun r160 => ?_)
                          simp (disch := omega) only [jset_k, jset_j, jset_same, true_and, and_true] at r160 ⊢
                          refine e_iload 163 dX12_renew_161 rfl rfl ?_
                          refine e_iadd 164 dX12_renew_163 rfl ?_
                          refine e_iastw 165 dX12_renew_164 ar_929 (by omega) (by omega) rfl ?_
                          refine e_aload_n (i := 0) 166 dX12_renew_165 rfl rfl rfl ?_
                          refine e_getr (j := 1) 169 fl_12_13 dX12_renew_166 at_928 rfl rfl tp_928_1 rfl ?_
                          refine e_sipush 172 dX12_renew_169 (by decide) rfl ?_
                          refine e_iload_n (i := 3) 173 dX12_renew_172 rfl rfl rfl ?_
                          refine e_iadd 174 dX12_renew_173 rfl ?_
                          refine e_aload_n (i := 0) 175 dX12_renew_174 rfl rfl rfl ?_
                          refine e_getr (j := 1) 178 fl_12_13 dX12_renew_175 at_928 rfl rfl tp_928_1 rfl ?_
                          refine e_sipush 181 dX12_renew_178 (by decide) rfl ?_
                          refine e_iald 182 dX12_renew_181 ar_929 (by decide) (by decide) rfl (fun r181 => ?_)
                          simp (disch := omega) only [jset_k, jset_j, jset_same, true_and, and_true] at r181 ⊢
                          refine e_iast 183 dX12_renew_182 ar_929 (by omega) (by omega) (by omega) rfl ?_
                          refine e_aload_n (i := 0) 184 dX12_renew_183 rfl rfl rfl ?_
                          refine e_getr (j := 1) 187 fl_12_13 dX12_renew_184 at_928 rfl rfl tp_928_1 rfl ?_
                          refine e_sipush 190 dX12_renew_187 (by decide) rfl ?_
                          refine e_iload_n (i := 3) 191 dX12_renew_190 rfl rfl rfl ?_
                          refine e_iadd 192 dX12_renew_191 rfl ?_
                          refine e_dup2 193 dX12_renew_192 rfl rfl rfl ?_
                          refine e_iald 194 dX12_renew_193 ar_929 (by omega) (by omega) rfl (fun r193 => ?_)
                          simp (disch := omega) only [jset_k, jset_j, jset_same, true_and, and_true] at r193 ⊢
                          refine e_iconst 195 dX12_renew_194 rfl ?_
                          refine e_iadd 196 dX12_renew_195 rfl ?_
                          refine e_iastw 197 dX12_renew_196 ar_929 (by omega) (by omega) rfl ?_
                          refine e_aload_n (i := 0) 198 dX12_renew_197 rfl rfl rfl ?_
                          refine e_getr (j := 1) 201 fl_12_13 dX12_renew_198 at_928 rfl rfl tp_928_1 rfl ?_
                          refine e_sipush 204 dX12_renew_201 (by decide) rfl ?_
                          refine e_iload_n (i := 3) 205 dX12_renew_204 rfl rfl rfl ?_
                          refine e_iadd 206 dX12_renew_205 rfl ?_
                          refine e_dup2 207 dX12_renew_206 rfl rfl rfl ?_
                          refine e_iald 208 dX12_renew_207 ar_929 (by omega) (by omega) rfl (fun r207 => ?_)
                          simp (disch := omega) only [jset_k, jset_j, jset_same, true_and, and_true] at r207 ⊢
                          refine e_iload 210 dX12_renew_208 rfl rfl ?_
                          refine e_iadd 211 dX12_renew_210 rfl ?_
                          refine e_iastw 212 dX12_renew_211 ar_929 (by omega) (by omega) rfl ?_
                          refine e_aload_n (i := 0) 213 dX12_renew_212 rfl rfl rfl ?_
                          refine e_getr (j := 1) 216 fl_12_13 dX12_renew_213 at_928 rfl rfl tp_928_1 rfl ?_
                          refine e_sipush 219 dX12_renew_216 (by decide) rfl ?_
                          refine e_iload_n (i := 2) 220 dX12_renew_219 rfl rfl rfl ?_
                          refine e_iadd 221 dX12_renew_220 rfl ?_
                          refine e_iconst 222 dX12_renew_221 rfl ?_
                          refine e_iast 223 dX12_renew_222 ar_929 (by omega) (by omega) (by decide) rfl ?_
                          refine e_aload_n (i := 0) 224 dX12_renew_223 rfl rfl rfl ?_
                          refine e_iload_n (i := 3) 225 dX12_renew_224 rfl rfl rfl ?_
                          refine e_iload 227 dX12_renew_225 rfl rfl ?_
                          refine e_callV 230 mt_yX12_gives mv_yX12_gives wd_1524 (by decide) dX12_renew_227 at_928 jc_12 rfl rfl rfl (Nat.le_of_ble_eq_true rfl) (jroom (by decide)) rfl (m_gives (by omega) (by omega) (by omega) ?_)
                          dsimp only [jpush]
                          refine e_iret dX12_renew_230 ?_
                          first
                            | (exact ⟨by omega, hI⟩)
                            | (exfalso; omega)
                            | ((try subst hM1)
                               refine ⟨by first | omega | exact congrArg tkNum (by omega), ?_⟩
                               have s1 := step_purse hI (q := M 929 (1461 + (number / 100 - 1))) (v := w32 (M 929 (692 + M 929 (1461 + (number / 100 - 1))) - (rI (M 929) (M 929 (1311 + (number / 100 - 1))) + M 929 26))) (by omega) rfl
                               have s2 := step_renew s1 (p := M 929 (1311 + (number / 100 - 1))) (v := w32 (M 929 (3775 + M 929 (1311 + (number / 100 - 1))) + 1)) (u := w32 (M 929 (3835 + M 929 (1311 + (number / 100 - 1))) + rI (M 929) (M 929 (1311 + (number / 100 - 1))))) (b1 := w32 (M 929 (2083 + M 929 708) + rI (M 929) (M 929 (1311 + (number / 100 - 1))))) (b5 := w32 (M 929 (3287 + M 929 708) + rI (M 929) (M 929 (1311 + (number / 100 - 1))))) (by (try simp (disch := omega) only [jset_k, jset_j, jset_same, true_and, and_true, cKill_o, rKill_o]); try omega)
                               simp (disch := omega) only [jset_k (k' := 929) (j' := 708), jset_j (j' := 708)] at s2
                               have s3 := step_live s2 (t := number / 100 - 1) (by (try simp (disch := omega) only [jset_k, jset_j, jset_same, true_and, and_true, cKill_o, rKill_o]); try omega)
                               have s4 := step_give s3 (p := M 929 (1311 + (number / 100 - 1))) (q := M 929 (1461 + (number / 100 - 1))) (by (try simp (disch := omega) only [jset_k, jset_j, jset_same, true_and, and_true, cKill_o, rKill_o]); try omega) (by (try simp (disch := omega) only [jset_k, jset_j, jset_same, true_and, and_true, cKill_o, rKill_o]); try omega) (by (try simp (disch := omega) only [jset_k, jset_j, jset_same, true_and, and_true, cKill_o, rKill_o]); try omega)
                               refine inv_eq s4 ?_ ?_
                               · repeat (first | exact Ceq.rf | refine Ceq.lg ?_ | refine Ceq.rg ?_ | refine Ceq.lk ?_ | refine Ceq.rk ?_ | refine Ceq.lr ?_ | refine Ceq.rr ?_ | refine Ceq.give ?_ (by omega) (by omega) | refine Ceq.kill ?_ (by omega) (by omega) | refine Ceq.set ?_ (by omega) (by omega) (by first | rfl | omega | exact congrArg w32 (by omega)))
                               · simp (disch := first | omega | (simp (disch := omega) only [jset_k, jset_j, jset_same, true_and, and_true, cKill_o, rKill_o]; omega)) only [rGive_929, rKill_929, jset_929, cGive_hi, cKill_hi, cEnter_hi, jset_row]))
                    · first
                       | (exfalso; omega)
                       | (skip
                          refine e_bipush 96 dX12_renew_94 (by decide) rfl ?_
                          refine e_iret dX12_renew_96 ?_
                          first
                            | (exact ⟨by omega, hI⟩)
                            | (exfalso; omega)))
              · first
                 | (exfalso; omega)
                 | (skip
                    refine e_bipush 32 dX12_renew_30 (by decide) rfl ?_
                    refine e_iret dX12_renew_32 ?_
                    first
                      | (exact ⟨by omega, hI⟩)
                      | (exfalso; omega)))
    · skip
      refine e_bipush 16 dX11_renew_14 (by decide) rfl ?_
      refine e_iret dX11_renew_16 ?_
      refine jCt_of mt_yX12_renew (Nat.le_of_ble_eq_true rfl) (fun X2 => ?_)
      refine e_aload_n (i := 0) 1 dX12_renew_0 rfl rfl rfl ?_
      refine e_iconst 2 dX12_renew_1 rfl ?_
      refine e_put0 (j := 0) 5 fl_12_1 dX12_renew_2 at_928 rfl rfl rfl (by decide) hI.1 rfl ?_
      refine e_aload_n (i := 0) 6 dX12_renew_5 rfl rfl rfl ?_
      refine e_iload_n (i := 1) 7 dX12_renew_6 rfl rfl rfl ?_
      refine e_callV 10 mt_yX12_stateOf mv_yX12_stateOf wd_1535 (by decide) dX12_renew_7 at_928 jc_12 rfl rfl rfl (Nat.le_of_ble_eq_true rfl) (jroom (by decide)) rfl (m_stateOf (by omega) hg.2.2.2.1 (fun t a b => (hC.tk a b).2.2.2.1) (fun w7 => ?_) (fun w7 => ?_) (fun w7 => ?_) (fun w7 => ?_))
      · (exfalso; (try simp only [tkBad, tkGood] at *); omega)
      · (exfalso; (try simp only [tkBad, tkGood] at *); omega)
      · (exfalso; (try simp only [tkBad, tkGood] at *); omega)
      · dsimp only [jpush]
        first
         | (exfalso; omega)
         | (skip
            refine e_if_eq 13 16 dX12_renew_10 (by decide) (by decide) rfl (fun _ => ?_) (fun h => absurd h (by decide))
            refine e_aload_n (i := 0) 17 dX12_renew_16 rfl rfl rfl ?_
            refine e_getr (j := 1) 20 fl_12_13 dX12_renew_17 at_928 rfl rfl tp_928_1 rfl ?_
            refine e_sipush 23 dX12_renew_20 (by decide) rfl ?_
            refine e_iald 24 dX12_renew_23 ar_929 (by decide) (by decide) rfl (fun r23 => ?_)
            refine e_sipush 27 dX12_renew_24 (by decide) rfl ?_
            refine e_icmp_ne 30 33 dX12_renew_27 (by omega) (by decide) (by decide) rfl (fun b27 => ?_) (fun b27 => ?_)
            · first
               | (exfalso; omega)
               | (skip
                  refine e_iload_n (i := 1) 34 dX12_renew_33 rfl rfl rfl ?_
                  refine e_bipush 36 dX12_renew_34 (by decide) rfl ?_
                  have hg2 := w7.1
                  unfold tkGood at hg2
                  have ed : number.tdiv 100 = number / 100 := Int.tdiv_eq_ediv_of_nonneg (by omega)
                  refine e_idiv 37 dX12_renew_36 (by omega) (by decide) (by decide) rfl ?_
                  refine e_iconst 38 dX12_renew_37 rfl ?_
                  refine e_isub 39 dX12_renew_38 rfl ?_
                  rw [ed]
                  refine e_istore_n (i := 2) (lsn := [(2, _), (0, _), (1, _)]) 40 dX12_renew_39 rfl (by decide) rfl rfl ?_
                  refine e_aload_n (i := 0) 41 dX12_renew_40 rfl rfl rfl ?_
                  refine e_getr (j := 1) 44 fl_12_13 dX12_renew_41 at_928 rfl rfl tp_928_1 rfl ?_
                  refine e_sipush 47 dX12_renew_44 (by decide) rfl ?_
                  refine e_iload_n (i := 2) 48 dX12_renew_47 rfl rfl rfl ?_
                  refine e_iadd 49 dX12_renew_48 rfl ?_
                  refine e_iald 50 dX12_renew_49 ar_929 (by omega) (by omega) rfl (fun r49 => ?_)
                  refine e_istore_n (i := 3) (lsn := [(3, _), (2, _), (0, _), (1, _)]) 51 dX12_renew_50 rfl (by decide) rfl rfl ?_
                  refine e_aload_n (i := 0) 52 dX12_renew_51 rfl rfl rfl ?_
                  refine e_getr (j := 1) 55 fl_12_13 dX12_renew_52 at_928 rfl rfl tp_928_1 rfl ?_
                  refine e_sipush 58 dX12_renew_55 (by decide) rfl ?_
                  refine e_iload_n (i := 2) 59 dX12_renew_58 rfl rfl rfl ?_
                  refine e_iadd 60 dX12_renew_59 rfl ?_
                  refine e_iald 61 dX12_renew_60 ar_929 (by omega) (by omega) rfl (fun r60 => ?_)
                  refine e_istore (lsn := [(4, _), (3, _), (2, _), (0, _), (1, _)]) 63 dX12_renew_61 (by decide) rfl rfl ?_
                  refine e_aload_n (i := 0) 64 dX12_renew_63 rfl rfl rfl ?_
                  refine e_iload_n (i := 3) 65 dX12_renew_64 rfl rfl rfl ?_
                  refine e_callV 68 mt_yX12_interestOf mv_yX12_interestOf wd_1551 (by decide) dX12_renew_65 at_928 jc_12 rfl rfl rfl (Nat.le_of_ble_eq_true rfl) (jroom (by decide)) rfl (m_interestOf (by first | exact hC.1.okP (by omega) (by omega) | (rw [hA]; exact hC.1.okP (by omega) (by omega))) ?_)
                  dsimp only [jpush]
                  refine e_istore (lsn := [(5, _), (4, _), (3, _), (2, _), (0, _), (1, _)]) 70 dX12_renew_68 (by decide) rfl rfl ?_
                  refine e_aload_n (i := 0) 71 dX12_renew_70 rfl rfl rfl ?_
                  refine e_getr (j := 1) 74 fl_12_13 dX12_renew_71 at_928 rfl rfl tp_928_1 rfl ?_
                  refine e_sipush 77 dX12_renew_74 (by decide) rfl ?_
                  refine e_iload 79 dX12_renew_77 rfl rfl ?_
                  refine e_iadd 80 dX12_renew_79 rfl ?_
                  refine e_iald 81 dX12_renew_80 ar_929 (by omega) (by omega) rfl (fun r80 => ?_)
                  refine e_iload 83 dX12_renew_81 rfl rfl ?_
                  refine e_aload_n (i := 0) 84 dX12_renew_83 rfl rfl rfl ?_
                  refine e_getr (j := 1) 87 fl_12_13 dX12_renew_84 at_928 rfl rfl tp_928_1 rfl ?_
                  refine e_bipush 89 dX12_renew_87 (by decide) rfl ?_
                  refine e_iald 90 dX12_renew_89 ar_929 (by decide) (by decide) rfl (fun r89 => ?_)
                  refine e_iadd 91 dX12_renew_90 rfl ?_
                  refine e_icmp_ge 94 97 dX12_renew_91 (by omega) (by omega) (by decide) rfl (fun b91 => ?_) (fun b91 => ?_)
                  · first
                     | (exfalso; omega)
                     | (skip
                        refine e_aload_n (i := 0) 98 dX12_renew_97 rfl rfl rfl ?_
                        refine e_getr (j := 1) 101 fl_12_13 dX12_renew_98 at_928 rfl rfl tp_928_1 rfl ?_
                        refine e_sipush 104 dX12_renew_101 (by decide) rfl ?_
                        refine e_iload 106 dX12_renew_104 rfl rfl ?_
                        refine e_iadd 107 dX12_renew_106 rfl ?_
                        refine e_dup2 108 dX12_renew_107 rfl rfl rfl ?_
                        refine e_iald 109 dX12_renew_108 ar_929 (by omega) (by omega) rfl (fun r108 => ?_)
                        refine e_iload 111 dX12_renew_109 rfl rfl ?_
                        refine e_aload_n (i := 0) 112 dX12_renew_111 rfl rfl rfl ?_
                        refine e_getr (j := 1) 115 fl_12_13 dX12_renew_112 at_928 rfl rfl tp_928_1 rfl ?_
                        refine e_bipush 117 dX12_renew_115 (by decide) rfl ?_
                        refine e_iald 118 dX12_renew_117 ar_929 (by decide) (by decide) rfl (fun r117 => ?_)
                        refine e_iadd 119 dX12_renew_118 rfl ?_
                        refine e_isub 120 dX12_renew_119 rfl ?_
                        refine e_iastw 121 dX12_renew_120 ar_929 (by omega) (by omega) rfl ?_
                        refine e_aload_n (i := 0) 122 dX12_renew_121 rfl rfl rfl ?_
                        refine e_getr (j := 1) 125 fl_12_13 dX12_renew_122 at_928 rfl rfl tp_928_1 rfl ?_
                        refine e_sipush 128 dX12_renew_125 (by decide) rfl ?_
                        refine e_aload_n (i := 0) 129 dX12_renew_128 rfl rfl rfl ?_
                        refine e_getr (j := 1) 132 fl_12_13 dX12_renew_129 at_928 rfl rfl tp_928_1 rfl ?_
                        refine e_sipush 135 dX12_renew_132 (by decide) rfl ?_
                        refine e_iald 136 dX12_renew_135 ar_929 (by decide) (by decide) rfl (fun r135 => ?_)
                        simp (disch := omega) only [jset_k, jset_j, jset_same, true_and, and_true] at r135 ⊢
                        refine e_iadd 137 dX12_renew_136 rfl ?_
                        refine e_dup2 138 dX12_renew_137 rfl rfl rfl ?_
                        refine e_iald 139 dX12_renew_138 ar_929 (by omega) (by omega) rfl (fun r138 => ?_)
                        simp (disch := omega) only [jset_k, jset_j, jset_same, true_and, and_true] at r138 ⊢
                        refine e_iload 141 dX12_renew_139 rfl rfl ?_
                        refine e_iadd 142 dX12_renew_141 rfl ?_
                        refine e_iastw 143 dX12_renew_142 ar_929 (by omega) (by omega) rfl ?_
                        refine e_aload_n (i := 0) 144 dX12_renew_143 rfl rfl rfl ?_
                        refine e_getr (j := 1) 147 fl_12_13 dX12_renew_144 at_928 rfl rfl tp_928_1 rfl ?_
                        refine e_sipush 150 dX12_renew_147 (by decide) rfl ?_
                        refine e_aload_n (i := 0) 151 dX12_renew_150 rfl rfl rfl ?_
                        refine e_getr (j := 1) 154 fl_12_13 dX12_renew_151 at_928 rfl rfl tp_928_1 rfl ?_
                        refine e_sipush 157 dX12_renew_154 (by decide) rfl ?_
                        refine e_iald 158 dX12_renew_157 ar_929 (by decide) (by decide) rfl (fun r157 => ?_)
                        simp (disch := omega) only [jset_k, jset_j, jset_same, true_and, and_true] at r157 ⊢
                        refine e_iadd 159 dX12_renew_158 rfl ?_
                        refine e_dup2 160 dX12_renew_159 rfl rfl rfl ?_
                        refine e_iald 161 dX12_renew_160 ar_929 (by omega) (by omega) rfl (fun r160 => ?_)
                        simp (disch := omega) only [jset_k, jset_j, jset_same, true_and, and_true] at r160 ⊢
                        refine e_iload 163 dX12_renew_161 rfl rfl ?_
                        refine e_iadd 164 dX12_renew_163 rfl ?_
                        refine e_iastw 165 dX12_renew_164 ar_929 (by omega) (by omega) rfl ?_
                        refine e_aload_n (i := 0) 166 dX12_renew_165 rfl rfl rfl ?_
                        refine e_getr (j := 1) 169 fl_12_13 dX12_renew_166 at_928 rfl rfl tp_928_1 rfl ?_
                        refine e_sipush 172 dX12_renew_169 (by decide) rfl ?_
                        refine e_iload_n (i := 3) 173 dX12_renew_172 rfl rfl rfl ?_
                        refine e_iadd 174 dX12_renew_173 rfl ?_
                        refine e_aload_n (i := 0) 175 dX12_renew_174 rfl rfl rfl ?_
                        refine e_getr (j := 1) 178 fl_12_13 dX12_renew_175 at_928 rfl rfl tp_928_1 rfl ?_
                        refine e_sipush 181 dX12_renew_178 (by decide) rfl ?_
                        refine e_iald 182 dX12_renew_181 ar_929 (by decide) (by decide) rfl (fun r181 => ?_)
                        simp (disch := omega) only [jset_k, jset_j, jset_same, true_and, and_true] at r181 ⊢
                        refine e_iast 183 dX12_renew_182 ar_929 (by omega) (by omega) (by omega) rfl ?_
                        refine e_aload_n (i := 0) 184 dX12_renew_183 rfl rfl rfl ?_
                        refine e_getr (j := 1) 187 fl_12_13 dX12_renew_184 at_928 rfl rfl tp_928_1 rfl ?_
                        refine e_sipush 190 dX12_renew_187 (by decide) rfl ?_
                        refine e_iload_n (i := 3) 191 dX12_renew_190 rfl rfl rfl ?_
                        refine e_iadd 192 dX12_renew_191 rfl ?_
                        refine e_dup2 193 dX12_renew_192 rfl rfl rfl ?_
                        refine e_iald 194 dX12_renew_193 ar_929 (by omega) (by omega) rfl (fun r193 => ?_)
                        simp (disch := omega) only [jset_k, jset_j, jset_same, true_and, and_true] at r193 ⊢
                        refine e_iconst 195 dX12_renew_194 rfl ?_
                        refine e_iadd 196 dX12_renew_195 rfl ?_
                        refine e_iastw 197 dX12_renew_196 ar_929 (by omega) (by omega) rfl ?_
                        refine e_aload_n (i := 0) 198 dX12_renew_197 rfl rfl rfl ?_
                        refine e_getr (j := 1) 201 fl_12_13 dX12_renew_198 at_928 rfl rfl tp_928_1 rfl ?_
                        refine e_sipush 204 dX12_renew_201 (by decide) rfl ?_
                        refine e_iload_n (i := 3) 205 dX12_renew_204 rfl rfl rfl ?_
                        refine e_iadd 206 dX12_renew_205 rfl ?_
                        refine e_dup2 207 dX12_renew_206 rfl rfl rfl ?_
                        refine e_iald 208 dX12_renew_207 ar_929 (by omega) (by omega) rfl (fun r207 => ?_)
                        simp (disch := omega) only [jset_k, jset_j, jset_same, true_and, and_true] at r207 ⊢
                        refine e_iload 210 dX12_renew_208 rfl rfl ?_
                        refine e_iadd 211 dX12_renew_210 rfl ?_
                        refine e_iastw 212 dX12_renew_211 ar_929 (by omega) (by omega) rfl ?_
                        refine e_aload_n (i := 0) 213 dX12_renew_212 rfl rfl rfl ?_
                        refine e_getr (j := 1) 216 fl_12_13 dX12_renew_213 at_928 rfl rfl tp_928_1 rfl ?_
                        refine e_sipush 219 dX12_renew_216 (by decide) rfl ?_
                        refine e_iload_n (i := 2) 220 dX12_renew_219 rfl rfl rfl ?_
                        refine e_iadd 221 dX12_renew_220 rfl ?_
                        refine e_iconst 222 dX12_renew_221 rfl ?_
                        refine e_iast 223 dX12_renew_222 ar_929 (by omega) (by omega) (by decide) rfl ?_
                        refine e_aload_n (i := 0) 224 dX12_renew_223 rfl rfl rfl ?_
                        refine e_iload_n (i := 3) 225 dX12_renew_224 rfl rfl rfl ?_
                        refine e_iload 227 dX12_renew_225 rfl rfl ?_
                        refine e_callV 230 mt_yX12_gives mv_yX12_gives wd_1524 (by decide) dX12_renew_227 at_928 jc_12 rfl rfl rfl (Nat.le_of_ble_eq_true rfl) (jroom (by decide)) rfl (m_gives (by omega) (by omega) (by omega) ?_)
                        dsimp only [jpush]
                        refine e_iret dX12_renew_230 ?_
                        first
                          | (exact ⟨by omega, hI⟩)
                          | (exfalso; omega)
                          | ((try subst hM1)
                             refine ⟨by first | omega | exact congrArg tkNum (by omega), ?_⟩
                             have s1 := step_purse hI (q := M 929 (1461 + (number / 100 - 1))) (v := w32 (M 929 (692 + M 929 (1461 + (number / 100 - 1))) - (rI (M 929) (M 929 (1311 + (number / 100 - 1))) + M 929 26))) (by omega) rfl
                             have s2 := step_renew s1 (p := M 929 (1311 + (number / 100 - 1))) (v := w32 (M 929 (3775 + M 929 (1311 + (number / 100 - 1))) + 1)) (u := w32 (M 929 (3835 + M 929 (1311 + (number / 100 - 1))) + rI (M 929) (M 929 (1311 + (number / 100 - 1))))) (b1 := w32 (M 929 (2083 + M 929 708) + rI (M 929) (M 929 (1311 + (number / 100 - 1))))) (b5 := w32 (M 929 (3287 + M 929 708) + rI (M 929) (M 929 (1311 + (number / 100 - 1))))) (by (try simp (disch := omega) only [jset_k, jset_j, jset_same, true_and, and_true, cKill_o, rKill_o]); try omega)
                             simp (disch := omega) only [jset_k (k' := 929) (j' := 708), jset_j (j' := 708)] at s2
                             have s3 := step_live s2 (t := number / 100 - 1) (by (try simp (disch := omega) only [jset_k, jset_j, jset_same, true_and, and_true, cKill_o, rKill_o]); try omega)
                             have s4 := step_give s3 (p := M 929 (1311 + (number / 100 - 1))) (q := M 929 (1461 + (number / 100 - 1))) (by (try simp (disch := omega) only [jset_k, jset_j, jset_same, true_and, and_true, cKill_o, rKill_o]); try omega) (by (try simp (disch := omega) only [jset_k, jset_j, jset_same, true_and, and_true, cKill_o, rKill_o]); try omega) (by (try simp (disch := omega) only [jset_k, jset_j, jset_same, true_and, and_true, cKill_o, rKill_o]); try omega)
                             refine inv_eq s4 ?_ ?_
                             · repeat (first | exact Ceq.rf | refine Ceq.lg ?_ | refine Ceq.rg ?_ | refine Ceq.lk ?_ | refine Ceq.rk ?_ | refine Ceq.lr ?_ | refine Ceq.rr ?_ | refine Ceq.give ?_ (by omega) (by omega) | refine Ceq.kill ?_ (by omega) (by omega) | refine Ceq.set ?_ (by omega) (by omega) (by first | rfl | omega | exact congrArg w32 (by omega)))
                             · simp (disch := first | omega | (simp (disch := omega) only [jset_k, jset_j, jset_same, true_and, and_true, cKill_o, rKill_o]; omega)) only [rGive_929, rKill_929, jset_929, cGive_hi, cKill_hi, cEnter_hi, jset_row]))
                  · first
                     | (exfalso; omega)
                     | (skip
                        refine e_bipush 96 dX12_renew_94 (by decide) rfl ?_
                        refine e_iret dX12_renew_96 ?_
                        first
                          | (exact ⟨by omega, hI⟩)
                          | (exfalso; omega)))
            · first
               | (exfalso; omega)
               | (skip
                  refine e_bipush 32 dX12_renew_30 (by decide) rfl ?_
                  refine e_iret dX12_renew_32 ?_
                  first
                    | (exact ⟨by omega, hI⟩)
                    | (exfalso; omega)))
  · dsimp only [jpush]
    (try simp (disch := omega) only [jset_k, jset_j, jset_same, true_and, and_true, cKill_o, rKill_o, cEnter])
    refine e_istore_n (i := 2) (lsn := [(2, _), (0, _), (1, _)]) 9 dX11_renew_8 rfl (by decide) rfl rfl ?_
    refine e_iload_n (i := 2) 10 dX11_renew_9 rfl rfl rfl ?_
    refine e_iconst 11 dX11_renew_10 rfl ?_
    refine e_icmp_ne 14 17 dX11_renew_11 (by decide) (by decide) (by decide) rfl (fun h => absurd h (by decide)) (fun _ => ?_)
    refine e_bipush 16 dX11_renew_14 (by decide) rfl ?_
    refine e_iret dX11_renew_16 ?_
    refine jCt_of mt_yX12_renew (Nat.le_of_ble_eq_true rfl) (fun X2 => ?_)
    refine e_aload_n (i := 0) 1 dX12_renew_0 rfl rfl rfl ?_
    refine e_iconst 2 dX12_renew_1 rfl ?_
    refine e_put0 (j := 0) 5 fl_12_1 dX12_renew_2 at_928 rfl rfl rfl (by decide) hI.1 rfl ?_
    refine e_aload_n (i := 0) 6 dX12_renew_5 rfl rfl rfl ?_
    refine e_iload_n (i := 1) 7 dX12_renew_6 rfl rfl rfl ?_
    refine e_callV 10 mt_yX12_stateOf mv_yX12_stateOf wd_1535 (by decide) dX12_renew_7 at_928 jc_12 rfl rfl rfl (Nat.le_of_ble_eq_true rfl) (jroom (by decide)) rfl (m_stateOf (by omega) hg.2.2.2.1 (fun t a b => (hC.tk a b).2.2.2.1) (fun w7 => ?_) (fun w7 => ?_) (fun w7 => ?_) (fun w7 => ?_))
    · dsimp only [jpush]
      first
       | (exfalso; omega)
       | (skip
          refine e_if_eq 13 16 dX12_renew_10 (by decide) (by decide) rfl (fun h => absurd h (by decide)) (fun _ => ?_)
          refine e_bipush 15 dX12_renew_13 (by decide) rfl ?_
          refine e_iret dX12_renew_15 ?_
          first
            | (exact ⟨by omega, hI⟩)
            | (exfalso; omega))
    · dsimp only [jpush]
      first
       | (exfalso; omega)
       | (skip
          refine e_if_eq 13 16 dX12_renew_10 (by decide) (by decide) rfl (fun h => absurd h (by decide)) (fun _ => ?_)
          refine e_bipush 15 dX12_renew_13 (by decide) rfl ?_
          refine e_iret dX12_renew_15 ?_
          first
            | (exact ⟨by omega, hI⟩)
            | (exfalso; omega))
    · dsimp only [jpush]
      first
       | (exfalso; omega)
       | (skip
          refine e_if_eq 13 16 dX12_renew_10 (by decide) (by decide) rfl (fun h => absurd h (by decide)) (fun _ => ?_)
          refine e_bipush 15 dX12_renew_13 (by decide) rfl ?_
          refine e_iret dX12_renew_15 ?_
          first
            | (exact ⟨by omega, hI⟩)
            | (exfalso; omega))
    · (exfalso; (try simp only [tkBad, tkGood] at *); omega)

