/-! PAIRS: sale -/
theorem rset_cong {a a2 : Int → Int} {j v j2 v2 : Int} (h : a = a2) (e1 : j = j2) (e2 : v = v2) : rset a j v = rset a2 j2 v2 := by rw [h, e1, e2]
theorem aKill_cong {a a2 : Int → Int} {j v j2 v2 : Int} (h : a = a2) (e1 : j = j2) (e2 : v = v2) : aKill a j v = aKill a2 j2 v2 := by rw [h, e1, e2]
theorem aGive_cong {a a2 : Int → Int} {j v j2 v2 : Int} (h : a = a2) (e1 : j = j2) (e2 : v = v2) : aGive a j v = aGive a2 j2 v2 := by rw [h, e1, e2]
theorem p_sale {M : jM} (hI : Inv M) {pledge : Int} (hpledge : -2147483648 ≤ pledge ∧ pledge ≤ 2147483647) {price : Int} (hprice : -2147483648 ≤ price ∧ price ≤ 2147483647) : jCt yX11_sale cX11_sale 6 (some .int) 5 [jR 0, jI pledge, jI price] M (fun z M1 => jCt yX12_sale cX12_sale 6 (some .int) 4 [jR 928, jI pledge, jI price] M1 (fun z2 M2 => z = z2 ∧ Inv M2)) := by
  have hC := hI.cr
  have hn := hC.cnt
  have hg := hC.rng
  refine jCt_of mt_yX11_sale (Nat.le_of_ble_eq_true rfl) (fun X => ?_)
  refine e_aload_n (i := 0) 1 dX11_sale_0 rfl rfl rfl ?_
  refine e_getr (j := 0) 4 fl_11_10 dX11_sale_1 at_0 rfl rfl tp_0_0 rfl ?_
  refine e_iload_n (i := 1) 5 dX11_sale_4 rfl rfl rfl ?_
  refine e_callV 8 mt_yX8_isPassed mv_yX8_isPassed wd_884 (by decide) dX11_sale_5 at_1 jc_8 rfl rfl rfl (Nat.le_of_ble_eq_true rfl) (jroom (by decide)) rfl (c_isPassed (by (try simp (disch := omega) only [jset_k, jset_j, jset_same, true_and, and_true, cKill_o, rKill_o, cEnter, cLeave_1, cLeave_2, rLeave, iOf_set]); omega) hC (fun w5 => ?_) (fun w5 => ?_))
  · dsimp only [jpush]
    (try simp (disch := omega) only [jset_k, jset_j, jset_same, true_and, and_true, cKill_o, rKill_o, cEnter, cLeave_1, cLeave_2, rLeave, iOf_set])
    refine e_if_eq 11 41 dX11_sale_8 (by decide) (by decide) rfl (fun h => absurd h (by decide)) (fun _ => ?_)
    have hp := hC.pl (p := pledge) (by omega) (by omega)
    have hpr := hC.plr (p := pledge) (by omega) (by omega)
    have hu := hC.rule
    have hio : iOf M pledge = rI (M 929) pledge := hC.iOf (by omega) (by omega)
    have hir := iOf_rng (hC.pOk (p := pledge) (by omega) (by omega))
    have hb := hC.bk (w := M 929 708) (by omega) (by omega)
    have q1 : M (32 + 1) (M 1 4) = M 929 (2083 + M 929 708) := by rw [hn.2.2.2.2.2.2.1]; exact hb.2.1
    have q4 : M (32 + 4) (M 1 4) = M 929 (2986 + M 929 708) := by rw [hn.2.2.2.2.2.2.1]; exact hb.2.2.2.2.1
    have q5 : M (32 + 5) (M 1 4) = M 929 (3287 + M 929 708) := by rw [hn.2.2.2.2.2.2.1]; exact hb.2.2.2.2.2
    refine e_aload_n (i := 0) 12 dX11_sale_11 rfl rfl rfl ?_
    refine e_getr (j := 0) 15 fl_11_10 dX11_sale_12 at_0 rfl rfl tp_0_0 rfl ?_
    refine e_aload_n (i := 0) 16 dX11_sale_15 rfl rfl rfl ?_
    refine e_getr (j := 0) 19 fl_11_10 dX11_sale_16 at_0 rfl rfl tp_0_0 rfl ?_
    refine e_getr (j := 9) 22 fl_11_200 dX11_sale_19 at_1 rfl rfl tp_1_9 rfl ?_
    refine e_iload_n (i := 1) 23 dX11_sale_22 rfl rfl rfl ?_
    refine e_aald 24 dX11_sale_23 ar_18 (by decide) (by omega) (by omega) (tp_pledge (by omega) (by omega)) rfl ?_
    refine e_callV 27 mt_yX8_isHeld mv_yX8_isHeld wd_831 (by decide) dX11_sale_24 at_1 jc_8 rfl rfl rfl (Nat.le_of_ble_eq_true rfl) (jroom (by decide)) rfl (c_isHeld (by (try simp (disch := omega) only [jset_k, jset_j, jset_same, true_and, and_true, cKill_o, rKill_o, cEnter, cLeave_1, cLeave_2, rLeave, iOf_set]); omega) (fun w24 => ?_) (fun w24 => ?_))
    · dsimp only [jpush]
      (try simp (disch := omega) only [jset_k, jset_j, jset_same, true_and, and_true, cKill_o, rKill_o, cEnter, cLeave_1, cLeave_2, rLeave, iOf_set])
      refine e_if_ne 30 41 dX11_sale_27 (by decide) (by decide) rfl (fun _ => ?_) (fun h => absurd h (by decide))
      refine e_ldc (z := (-1000000)) 43 (ix := 173) wd_765 (by decide) dX11_sale_41 rfl ?_
      refine e_iret dX11_sale_43 ?_
      refine jCt_of mt_yX12_sale (Nat.le_of_ble_eq_true rfl) (fun X2 => ?_)
      refine e_aload_n (i := 0) 1 dX12_sale_0 rfl rfl rfl ?_
      refine e_iconst 2 dX12_sale_1 rfl ?_
      refine e_put0 (j := 0) 5 fl_12_1 dX12_sale_2 at_928 rfl rfl rfl (by decide) hI.1 rfl ?_
      refine e_aload_n (i := 0) 6 dX12_sale_5 rfl rfl rfl ?_
      refine e_iload_n (i := 1) 7 dX12_sale_6 rfl rfl rfl ?_
      refine e_callV 10 mt_yX12_isPledge mv_yX12_isPledge wd_1579 (by decide) dX12_sale_7 at_928 jc_12 rfl rfl rfl (Nat.le_of_ble_eq_true rfl) (jroom (by decide)) rfl (m_isPledge (by omega) (fun w7 => ?_) (fun w7 => ?_))
      · dsimp only [jpush]
        first
         | (exfalso; omega)
         | (skip
            refine e_if_eq 13 41 dX12_sale_10 (by decide) (by decide) rfl (fun h => absurd h (by decide)) (fun _ => ?_)
            refine e_aload_n (i := 0) 14 dX12_sale_13 rfl rfl rfl ?_
            refine e_iload_n (i := 1) 15 dX12_sale_14 rfl rfl rfl ?_
            refine e_callV 18 mt_yX12_isPassed mv_yX12_isPassed wd_1603 (by decide) dX12_sale_15 at_928 jc_12 rfl rfl rfl (Nat.le_of_ble_eq_true rfl) (jroom (by decide)) rfl (m_isPassed (by omega) (by first | (have := hC.plr (p := pledge) (by omega) (by omega); omega) | (simp only [hA]; have := hC.plr (p := pledge) (by omega) (by omega); omega)) (fun w15 => ?_) (fun w15 => ?_))
            · dsimp only [jpush]
              first
               | (exfalso; omega)
               | (skip
                  refine e_if_eq 21 41 dX12_sale_18 (by decide) (by decide) rfl (fun h => absurd h (by decide)) (fun _ => ?_)
                  refine e_aload_n (i := 0) 22 dX12_sale_21 rfl rfl rfl ?_
                  refine e_iload_n (i := 1) 23 dX12_sale_22 rfl rfl rfl ?_
                  refine e_callV 26 mt_yX12_isHeld mv_yX12_isHeld wd_1559 (by decide) dX12_sale_23 at_928 jc_12 rfl rfl rfl (Nat.le_of_ble_eq_true rfl) (jroom (by decide)) rfl (m_isHeld (by omega) (fun w23 => ?_) (fun w23 => ?_))
                  · dsimp only [jpush]
                    first
                     | (exfalso; omega)
                     | (skip
                        refine e_if_ne 29 41 dX12_sale_26 (by decide) (by decide) rfl (fun _ => ?_) (fun h => absurd h (by decide))
                        refine e_ldc (z := (-1000000)) 43 (ix := 218) wd_1510 (by decide) dX12_sale_41 rfl ?_
                        refine e_iret dX12_sale_43 ?_
                        first
                          | (exact ⟨by omega, hI⟩)
                          | (exfalso; omega))
                  · dsimp only [jpush]
                    first
                     | (exfalso; omega)
                     | (skip
                        refine e_if_ne 29 41 dX12_sale_26 (by decide) (by decide) rfl (fun h => absurd h (by decide)) (fun _ => ?_)
                        refine e_iload_n (i := 2) 30 dX12_sale_29 rfl rfl rfl ?_
                        refine e_i2l 31 dX12_sale_30 (by omega) rfl ?_
                        refine e_lconst0 32 dX12_sale_31 rfl ?_
                        refine e_ldc2 (z := (9999)) 35 (ix := 213) wd_1501 (by decide) dX12_sale_32 rfl ?_
                        refine e_callS 38 mt_yX12_within ms_yX12_within wd_1390 (by decide) dX12_sale_35 rfl rfl (Nat.le_of_ble_eq_true rfl) (jroom (by decide)) rfl (m_within (by omega) (by omega) (by omega) (fun w35 => ?_) (fun w35 => ?_))
                        · dsimp only [jpush]
                          first
                           | (exfalso; omega)
                           | (skip
                              refine e_if_ne 41 44 dX12_sale_38 (by decide) (by decide) rfl (fun _ => ?_) (fun h => absurd h (by decide))
                              refine e_aload_n (i := 0) 45 dX12_sale_44 rfl rfl rfl ?_
                              refine e_iload_n (i := 1) 46 dX12_sale_45 rfl rfl rfl ?_
                              refine e_callV 49 mt_yX12_dueOf mv_yX12_dueOf wd_1547 (by decide) dX12_sale_46 at_928 jc_12 rfl rfl rfl (Nat.le_of_ble_eq_true rfl) (jroom (by decide)) rfl (m_dueOf (by first | exact hC.1.okP (by omega) (by omega) | (rw [hA]; exact hC.1.okP (by omega) (by omega))) ?_)
                              dsimp only [jpush]
                              refine e_istore_n (i := 3) (lsn := [(3, _), (0, _), (1, _), (2, _)]) 50 dX12_sale_49 rfl (by decide) rfl rfl ?_
                              refine e_aload_n (i := 0) 51 dX12_sale_50 rfl rfl rfl ?_
                              refine e_iload_n (i := 1) 52 dX12_sale_51 rfl rfl rfl ?_
                              refine e_callV 55 mt_yX12_interestOf mv_yX12_interestOf wd_1551 (by decide) dX12_sale_52 at_928 jc_12 rfl rfl rfl (Nat.le_of_ble_eq_true rfl) (jroom (by decide)) rfl (m_interestOf (by first | exact hC.1.okP (by omega) (by omega) | (rw [hA]; exact hC.1.okP (by omega) (by omega))) ?_)
                              dsimp only [jpush]
                              refine e_istore (lsn := [(4, _), (3, _), (0, _), (1, _), (2, _)]) 57 dX12_sale_55 (by decide) rfl rfl ?_
                              refine e_iconst 58 dX12_sale_57 rfl ?_
                              refine e_iload_n (i := 2) 59 dX12_sale_58 rfl rfl rfl ?_
                              refine e_imul 60 dX12_sale_59 rfl ?_
                              refine e_iconst 61 dX12_sale_60 rfl ?_
                              refine e_aload_n (i := 0) 62 dX12_sale_61 rfl rfl rfl ?_
                              refine e_getr (j := 1) 65 fl_12_13 dX12_sale_62 at_928 rfl rfl tp_928_1 rfl ?_
                              refine e_sipush 68 dX12_sale_65 (by decide) rfl ?_
                              refine e_iload_n (i := 1) 69 dX12_sale_68 rfl rfl rfl ?_
                              refine e_iadd 70 dX12_sale_69 rfl ?_
                              refine e_iald 71 dX12_sale_70 ar_929 (by omega) (by omega) rfl (fun r70 => ?_)
                              refine e_imul 72 dX12_sale_71 rfl ?_
                              refine e_isub 73 dX12_sale_72 rfl ?_
                              refine e_istore (lsn := [(5, _), (4, _), (3, _), (0, _), (1, _), (2, _)]) 75 dX12_sale_73 (by decide) rfl rfl ?_
                              refine e_iload 77 dX12_sale_75 rfl rfl ?_
                              refine e_if_ge 80 84 dX12_sale_77 (by omega) (by decide) rfl (fun b77 => ?_) (fun b77 => ?_)
                              · first
                                 | (exfalso; omega)
                                 | (skip
                                    refine e_iload 86 dX12_sale_84 rfl rfl ?_
                                    refine e_iload 88 dX12_sale_86 rfl rfl ?_
                                    refine e_icmp_le 91 96 dX12_sale_88 (by omega) (by omega) (by decide) rfl (fun b88 => ?_) (fun b88 => ?_)
                                    · first
                                       | (exfalso; omega)
                                       | (skip
                                          refine e_iload 98 dX12_sale_96 rfl rfl ?_
                                          refine e_istore (lsn := [(5, _), (4, _), (3, _), (0, _), (1, _), (2, _)]) 100 dX12_sale_98 (by decide) rfl rfl ?_
                                          refine e_aload_n (i := 0) 101 dX12_sale_100 rfl rfl rfl ?_
                                          refine e_getr (j := 1) 104 fl_12_13 dX12_sale_101 at_928 rfl rfl tp_928_1 rfl ?_
                                          refine e_sipush 107 dX12_sale_104 (by decide) rfl ?_
                                          refine e_aload_n (i := 0) 108 dX12_sale_107 rfl rfl rfl ?_
                                          refine e_getr (j := 1) 111 fl_12_13 dX12_sale_108 at_928 rfl rfl tp_928_1 rfl ?_
                                          refine e_sipush 114 dX12_sale_111 (by decide) rfl ?_
                                          refine e_iald 115 dX12_sale_114 ar_929 (by decide) (by decide) rfl (fun r114 => ?_)
                                          refine e_iadd 116 dX12_sale_115 rfl ?_
                                          refine e_dup2 117 dX12_sale_116 rfl rfl rfl ?_
                                          refine e_iald 118 dX12_sale_117 ar_929 (by omega) (by omega) rfl (fun r117 => ?_)
                                          refine e_iload 120 dX12_sale_118 rfl rfl ?_
                                          refine e_iadd 121 dX12_sale_120 rfl ?_
                                          refine e_iastw 122 dX12_sale_121 ar_929 (by omega) (by omega) rfl ?_
                                          refine e_aload_n (i := 0) 123 dX12_sale_122 rfl rfl rfl ?_
                                          refine e_getr (j := 1) 126 fl_12_13 dX12_sale_123 at_928 rfl rfl tp_928_1 rfl ?_
                                          refine e_sipush 129 dX12_sale_126 (by decide) rfl ?_
                                          refine e_aload_n (i := 0) 130 dX12_sale_129 rfl rfl rfl ?_
                                          refine e_getr (j := 1) 133 fl_12_13 dX12_sale_130 at_928 rfl rfl tp_928_1 rfl ?_
                                          refine e_sipush 136 dX12_sale_133 (by decide) rfl ?_
                                          refine e_iald 137 dX12_sale_136 ar_929 (by decide) (by decide) rfl (fun r136 => ?_)
                                          simp (disch := omega) only [jset_k, jset_j, jset_same, true_and, and_true] at r136 ⊢
                                          refine e_iadd 138 dX12_sale_137 rfl ?_
                                          refine e_dup2 139 dX12_sale_138 rfl rfl rfl ?_
                                          refine e_iald 140 dX12_sale_139 ar_929 (by omega) (by omega) rfl (fun r139 => ?_)
                                          simp (disch := omega) only [jset_k, jset_j, jset_same, true_and, and_true] at r139 ⊢
                                          refine e_iconst 141 dX12_sale_140 rfl ?_
                                          refine e_iadd 142 dX12_sale_141 rfl ?_
                                          refine e_iastw 143 dX12_sale_142 ar_929 (by omega) (by omega) rfl ?_
                                          refine e_aload_n (i := 0) 144 dX12_sale_143 rfl rfl rfl ?_
                                          refine e_getr (j := 1) 147 fl_12_13 dX12_sale_144 at_928 rfl rfl tp_928_1 rfl ?_
                                          refine e_sipush 150 dX12_sale_147 (by decide) rfl ?_
                                          refine e_aload_n (i := 0) 151 dX12_sale_150 rfl rfl rfl ?_
                                          refine e_getr (j := 1) 154 fl_12_13 dX12_sale_151 at_928 rfl rfl tp_928_1 rfl ?_
                                          refine e_sipush 157 dX12_sale_154 (by decide) rfl ?_
                                          refine e_iald 158 dX12_sale_157 ar_929 (by decide) (by decide) rfl (fun r157 => ?_)
                                          simp (disch := omega) only [jset_k, jset_j, jset_same, true_and, and_true] at r157 ⊢
                                          refine e_iadd 159 dX12_sale_158 rfl ?_
                                          refine e_dup2 160 dX12_sale_159 rfl rfl rfl ?_
                                          refine e_iald 161 dX12_sale_160 ar_929 (by omega) (by omega) rfl (fun r160 => ?_)
                                          simp (disch := omega) only [jset_k, jset_j, jset_same, true_and, and_true] at r160 ⊢
                                          refine e_iconst 162 dX12_sale_161 rfl ?_
                                          refine e_iload_n (i := 2) 163 dX12_sale_162 rfl rfl rfl ?_
                                          refine e_imul 164 dX12_sale_163 rfl ?_
                                          refine e_iload_n (i := 3) 165 dX12_sale_164 rfl rfl rfl ?_
                                          refine e_icmp_ge 168 174 dX12_sale_165 (by omega) (by omega) (by decide) rfl (fun b165 => ?_) (fun b165 => ?_)
                                          · first
                                             | (exfalso; omega)
                                             | (skip
                                                refine e_iload_n (i := 3) 175 dX12_sale_174 rfl rfl rfl ?_
                                                refine e_iadd 176 dX12_sale_175 rfl ?_
                                                refine e_iastw 177 dX12_sale_176 ar_929 (by omega) (by omega) rfl ?_
                                                refine e_aload_n (i := 0) 178 dX12_sale_177 rfl rfl rfl ?_
                                                refine e_getr (j := 1) 181 fl_12_13 dX12_sale_178 at_928 rfl rfl tp_928_1 rfl ?_
                                                refine e_sipush 184 dX12_sale_181 (by decide) rfl ?_
                                                refine e_iload_n (i := 1) 185 dX12_sale_184 rfl rfl rfl ?_
                                                refine e_iadd 186 dX12_sale_185 rfl ?_
                                                refine e_iconst 187 dX12_sale_186 rfl ?_
                                                refine e_iload_n (i := 2) 188 dX12_sale_187 rfl rfl rfl ?_
                                                refine e_imul 189 dX12_sale_188 rfl ?_
                                                refine e_iload_n (i := 3) 190 dX12_sale_189 rfl rfl rfl ?_
                                                refine e_icmp_le 193 201 dX12_sale_190 (by omega) (by omega) (by decide) rfl (fun b190 => ?_) (fun b190 => ?_)
                                                · first
                                                   | (exfalso; omega)
                                                   | (skip
                                                      refine e_iconst 202 dX12_sale_201 rfl ?_
                                                      refine e_iast 203 dX12_sale_202 ar_929 (by omega) (by omega) (by decide) rfl ?_
                                                      refine e_aload_n (i := 0) 204 dX12_sale_203 rfl rfl rfl ?_
                                                      refine e_iload_n (i := 1) 205 dX12_sale_204 rfl rfl rfl ?_
                                                      refine e_iconst 206 dX12_sale_205 rfl ?_
                                                      refine e_callV 209 mt_yX12_leaves mv_yX12_leaves wd_1563 (by decide) dX12_sale_206 at_928 jc_12 rfl rfl rfl (Nat.le_of_ble_eq_true rfl) (jroom (by decide)) rfl (m_leaves (by omega) (by decide) (by (try simp (disch := omega) only [jset_k, jset_j, jset_same, true_and, and_true, hA, rKill_o]); omega) ?_)
                                                      dsimp only [jpush]
                                                      refine e_iconst 210 dX12_sale_209 rfl ?_
                                                      refine e_iload_n (i := 2) 211 dX12_sale_210 rfl rfl rfl ?_
                                                      refine e_imul 212 dX12_sale_211 rfl ?_
                                                      refine e_iload_n (i := 3) 213 dX12_sale_212 rfl rfl rfl ?_
                                                      refine e_isub 214 dX12_sale_213 rfl ?_
                                                      refine e_iret dX12_sale_214 ?_
                                                      first
                                                        | (exact ⟨by omega, hI⟩)
                                                        | (exfalso; omega)
                                                        | ((try subst hM1)
                                                           refine ⟨by first | omega | exact congrArg tkNum (by omega), ?_⟩
                                                           have s1 := step_book2 hI (b := 1) (w := M 929 708) (o := 2083) (v := w32 (M 929 (2083 + M 929 708) + min (max (2 * price - 2 * M 929 (830 + pledge)) 0) (rI (M 929) pledge))) (by omega) (by omega) (by omega) rfl
                                                           have s2 := step_book2 s1 (b := 4) (w := M 929 708) (o := 2986) (v := w32 (M 929 (2986 + M 929 708) + 1)) (by omega) (by omega) (by omega) rfl
                                                           have s3 := step_book2 s2 (b := 5) (w := M 929 708) (o := 3287) (v := w32 (M 929 (3287 + M 929 708) + min (2 * price) (2 * M 929 (830 + pledge) + rI (M 929) pledge))) (by omega) (by omega) (by omega) rfl
                                                           have s4 := step_over s3 (p := pledge) (v := max (2 * price - (2 * M 929 (830 + pledge) + rI (M 929) pledge)) 0) (by (try simp (disch := omega) only [jset_k, jset_j, jset_same, true_and, and_true, cKill_o, rKill_o]); try omega) rfl
                                                           have s5 := step_left2 s4 (p := pledge) (by (try simp (disch := omega) only [jset_k, jset_j, jset_same, true_and, and_true, cKill_o, rKill_o]); try omega)
                                                           simp (disch := omega) only [jset_k (k' := 929) (j' := 708), jset_j (j' := 708)] at s5
                                                           have s6 := step_kill s5 (p := pledge) (n := M 929 1310) (n2 := M 929 1310) (by (try simp (disch := omega) only [jset_k, jset_j, jset_same, true_and, and_true, cKill_o, rKill_o]); try omega) (by (try simp (disch := omega) only [jset_k, jset_j, jset_same, true_and, and_true, cKill_o, rKill_o]); try omega)
                                                           refine inv_eq s6 ?_ ?_
                                                           · repeat (first | exact Ceq.rf | refine Ceq.lg ?_ | refine Ceq.rg ?_ | refine Ceq.lk ?_ | refine Ceq.rk ?_ | refine Ceq.lr ?_ | refine Ceq.rr ?_ | refine Ceq.give ?_ (by omega) (by omega) | refine Ceq.kill ?_ (by omega) (by omega) | refine Ceq.set ?_ (by omega) (by omega) (by first | rfl | omega | exact congrArg w32 (by omega)))
                                                           · simp (disch := first | omega | (simp (disch := omega) only [jset_k, jset_j, jset_same, true_and, and_true, cKill_o, rKill_o]; omega)) only [rGive_929, rKill_929, jset_929, cGive_hi, cKill_hi, cEnter_hi, jset_row]
                                                             repeat (first | rfl | refine aGive_cong ?_ (by omega) (by omega) | refine aKill_cong ?_ (by omega) (by omega) | refine rset_cong ?_ (by omega) (by first | rfl | omega | exact congrArg w32 (by omega)))))
                                                · first
                                                   | (exfalso; omega)
                                                   | (skip
                                                      refine e_iconst 194 dX12_sale_193 rfl ?_
                                                      refine e_iload_n (i := 2) 195 dX12_sale_194 rfl rfl rfl ?_
                                                      refine e_imul 196 dX12_sale_195 rfl ?_
                                                      refine e_iload_n (i := 3) 197 dX12_sale_196 rfl rfl rfl ?_
                                                      refine e_isub 198 dX12_sale_197 rfl ?_
                                                      refine e_goto 202 dX12_sale_198 (by decide) ?_
                                                      refine e_iast 203 dX12_sale_202 ar_929 (by omega) (by omega) (by omega) rfl ?_
                                                      refine e_aload_n (i := 0) 204 dX12_sale_203 rfl rfl rfl ?_
                                                      refine e_iload_n (i := 1) 205 dX12_sale_204 rfl rfl rfl ?_
                                                      refine e_iconst 206 dX12_sale_205 rfl ?_
                                                      refine e_callV 209 mt_yX12_leaves mv_yX12_leaves wd_1563 (by decide) dX12_sale_206 at_928 jc_12 rfl rfl rfl (Nat.le_of_ble_eq_true rfl) (jroom (by decide)) rfl (m_leaves (by omega) (by decide) (by (try simp (disch := omega) only [jset_k, jset_j, jset_same, true_and, and_true, hA, rKill_o]); omega) ?_)
                                                      dsimp only [jpush]
                                                      refine e_iconst 210 dX12_sale_209 rfl ?_
                                                      refine e_iload_n (i := 2) 211 dX12_sale_210 rfl rfl rfl ?_
                                                      refine e_imul 212 dX12_sale_211 rfl ?_
                                                      refine e_iload_n (i := 3) 213 dX12_sale_212 rfl rfl rfl ?_
                                                      refine e_isub 214 dX12_sale_213 rfl ?_
                                                      refine e_iret dX12_sale_214 ?_
                                                      first
                                                        | (exact ⟨by omega, hI⟩)
                                                        | (exfalso; omega)
                                                        | ((try subst hM1)
                                                           refine ⟨by first | omega | exact congrArg tkNum (by omega), ?_⟩
                                                           have s1 := step_book2 hI (b := 1) (w := M 929 708) (o := 2083) (v := w32 (M 929 (2083 + M 929 708) + min (max (2 * price - 2 * M 929 (830 + pledge)) 0) (rI (M 929) pledge))) (by omega) (by omega) (by omega) rfl
                                                           have s2 := step_book2 s1 (b := 4) (w := M 929 708) (o := 2986) (v := w32 (M 929 (2986 + M 929 708) + 1)) (by omega) (by omega) (by omega) rfl
                                                           have s3 := step_book2 s2 (b := 5) (w := M 929 708) (o := 3287) (v := w32 (M 929 (3287 + M 929 708) + min (2 * price) (2 * M 929 (830 + pledge) + rI (M 929) pledge))) (by omega) (by omega) (by omega) rfl
                                                           have s4 := step_over s3 (p := pledge) (v := max (2 * price - (2 * M 929 (830 + pledge) + rI (M 929) pledge)) 0) (by (try simp (disch := omega) only [jset_k, jset_j, jset_same, true_and, and_true, cKill_o, rKill_o]); try omega) rfl
                                                           have s5 := step_left2 s4 (p := pledge) (by (try simp (disch := omega) only [jset_k, jset_j, jset_same, true_and, and_true, cKill_o, rKill_o]); try omega)
                                                           simp (disch := omega) only [jset_k (k' := 929) (j' := 708), jset_j (j' := 708)] at s5
                                                           have s6 := step_kill s5 (p := pledge) (n := M 929 1310) (n2 := M 929 1310) (by (try simp (disch := omega) only [jset_k, jset_j, jset_same, true_and, and_true, cKill_o, rKill_o]); try omega) (by (try simp (disch := omega) only [jset_k, jset_j, jset_same, true_and, and_true, cKill_o, rKill_o]); try omega)
                                                           refine inv_eq s6 ?_ ?_
                                                           · repeat (first | exact Ceq.rf | refine Ceq.lg ?_ | refine Ceq.rg ?_ | refine Ceq.lk ?_ | refine Ceq.rk ?_ | refine Ceq.lr ?_ | refine Ceq.rr ?_ | refine Ceq.give ?_ (by omega) (by omega) | refine Ceq.kill ?_ (by omega) (by omega) | refine Ceq.set ?_ (by omega) (by omega) (by first | rfl | omega | exact congrArg w32 (by omega)))
                                                           · simp (disch := first | omega | (simp (disch := omega) only [jset_k, jset_j, jset_same, true_and, and_true, cKill_o, rKill_o]; omega)) only [rGive_929, rKill_929, jset_929, cGive_hi, cKill_hi, cEnter_hi, jset_row]
                                                             repeat (first | rfl | refine aGive_cong ?_ (by omega) (by omega) | refine aKill_cong ?_ (by omega) (by omega) | refine rset_cong ?_ (by omega) (by first | rfl | omega | exact congrArg w32 (by omega))))))
                                          · first
                                             | (exfalso; omega)
                                             | (skip
                                                refine e_iconst 169 dX12_sale_168 rfl ?_
                                                refine e_iload_n (i := 2) 170 dX12_sale_169 rfl rfl rfl ?_
                                                refine e_imul 171 dX12_sale_170 rfl ?_
                                                refine e_goto 175 dX12_sale_171 (by decide) ?_
                                                refine e_iadd 176 dX12_sale_175 rfl ?_
                                                refine e_iastw 177 dX12_sale_176 ar_929 (by omega) (by omega) rfl ?_
                                                refine e_aload_n (i := 0) 178 dX12_sale_177 rfl rfl rfl ?_
                                                refine e_getr (j := 1) 181 fl_12_13 dX12_sale_178 at_928 rfl rfl tp_928_1 rfl ?_
                                                refine e_sipush 184 dX12_sale_181 (by decide) rfl ?_
                                                refine e_iload_n (i := 1) 185 dX12_sale_184 rfl rfl rfl ?_
                                                refine e_iadd 186 dX12_sale_185 rfl ?_
                                                refine e_iconst 187 dX12_sale_186 rfl ?_
                                                refine e_iload_n (i := 2) 188 dX12_sale_187 rfl rfl rfl ?_
                                                refine e_imul 189 dX12_sale_188 rfl ?_
                                                refine e_iload_n (i := 3) 190 dX12_sale_189 rfl rfl rfl ?_
                                                refine e_icmp_le 193 201 dX12_sale_190 (by omega) (by omega) (by decide) rfl (fun b190 => ?_) (fun b190 => ?_)
                                                · first
                                                   | (exfalso; omega)
                                                   | (skip
                                                      refine e_iconst 202 dX12_sale_201 rfl ?_
                                                      refine e_iast 203 dX12_sale_202 ar_929 (by omega) (by omega) (by decide) rfl ?_
                                                      refine e_aload_n (i := 0) 204 dX12_sale_203 rfl rfl rfl ?_
                                                      refine e_iload_n (i := 1) 205 dX12_sale_204 rfl rfl rfl ?_
                                                      refine e_iconst 206 dX12_sale_205 rfl ?_
                                                      refine e_callV 209 mt_yX12_leaves mv_yX12_leaves wd_1563 (by decide) dX12_sale_206 at_928 jc_12 rfl rfl rfl (Nat.le_of_ble_eq_true rfl) (jroom (by decide)) rfl (m_leaves (by omega) (by decide) (by (try simp (disch := omega) only [jset_k, jset_j, jset_same, true_and, and_true, hA, rKill_o]); omega) ?_)
                                                      dsimp only [jpush]
                                                      refine e_iconst 210 dX12_sale_209 rfl ?_
                                                      refine e_iload_n (i := 2) 211 dX12_sale_210 rfl rfl rfl ?_
                                                      refine e_imul 212 dX12_sale_211 rfl ?_
                                                      refine e_iload_n (i := 3) 213 dX12_sale_212 rfl rfl rfl ?_
                                                      refine e_isub 214 dX12_sale_213 rfl ?_
                                                      refine e_iret dX12_sale_214 ?_
                                                      first
                                                        | (exact ⟨by omega, hI⟩)
                                                        | (exfalso; omega)
                                                        | ((try subst hM1)
                                                           refine ⟨by first | omega | exact congrArg tkNum (by omega), ?_⟩
                                                           have s1 := step_book2 hI (b := 1) (w := M 929 708) (o := 2083) (v := w32 (M 929 (2083 + M 929 708) + min (max (2 * price - 2 * M 929 (830 + pledge)) 0) (rI (M 929) pledge))) (by omega) (by omega) (by omega) rfl
                                                           have s2 := step_book2 s1 (b := 4) (w := M 929 708) (o := 2986) (v := w32 (M 929 (2986 + M 929 708) + 1)) (by omega) (by omega) (by omega) rfl
                                                           have s3 := step_book2 s2 (b := 5) (w := M 929 708) (o := 3287) (v := w32 (M 929 (3287 + M 929 708) + min (2 * price) (2 * M 929 (830 + pledge) + rI (M 929) pledge))) (by omega) (by omega) (by omega) rfl
                                                           have s4 := step_over s3 (p := pledge) (v := max (2 * price - (2 * M 929 (830 + pledge) + rI (M 929) pledge)) 0) (by (try simp (disch := omega) only [jset_k, jset_j, jset_same, true_and, and_true, cKill_o, rKill_o]); try omega) rfl
                                                           have s5 := step_left2 s4 (p := pledge) (by (try simp (disch := omega) only [jset_k, jset_j, jset_same, true_and, and_true, cKill_o, rKill_o]); try omega)
                                                           simp (disch := omega) only [jset_k (k' := 929) (j' := 708), jset_j (j' := 708)] at s5
                                                           have s6 := step_kill s5 (p := pledge) (n := M 929 1310) (n2 := M 929 1310) (by (try simp (disch := omega) only [jset_k, jset_j, jset_same, true_and, and_true, cKill_o, rKill_o]); try omega) (by (try simp (disch := omega) only [jset_k, jset_j, jset_same, true_and, and_true, cKill_o, rKill_o]); try omega)
                                                           refine inv_eq s6 ?_ ?_
                                                           · repeat (first | exact Ceq.rf | refine Ceq.lg ?_ | refine Ceq.rg ?_ | refine Ceq.lk ?_ | refine Ceq.rk ?_ | refine Ceq.lr ?_ | refine Ceq.rr ?_ | refine Ceq.give ?_ (by omega) (by omega) | refine Ceq.kill ?_ (by omega) (by omega) | refine Ceq.set ?_ (by omega) (by omega) (by first | rfl | omega | exact congrArg w32 (by omega)))
                                                           · simp (disch := first | omega | (simp (disch := omega) only [jset_k, jset_j, jset_same, true_and, and_true, cKill_o, rKill_o]; omega)) only [rGive_929, rKill_929, jset_929, cGive_hi, cKill_hi, cEnter_hi, jset_row]
                                                             repeat (first | rfl | refine aGive_cong ?_ (by omega) (by omega) | refine aKill_cong ?_ (by omega) (by omega) | refine rset_cong ?_ (by omega) (by first | rfl | omega | exact congrArg w32 (by omega)))))
                                                · first
                                                   | (exfalso; omega)
                                                   | (skip
                                                      refine e_iconst 194 dX12_sale_193 rfl ?_
                                                      refine e_iload_n (i := 2) 195 dX12_sale_194 rfl rfl rfl ?_
                                                      refine e_imul 196 dX12_sale_195 rfl ?_
                                                      refine e_iload_n (i := 3) 197 dX12_sale_196 rfl rfl rfl ?_
                                                      refine e_isub 198 dX12_sale_197 rfl ?_
                                                      refine e_goto 202 dX12_sale_198 (by decide) ?_
                                                      refine e_iast 203 dX12_sale_202 ar_929 (by omega) (by omega) (by omega) rfl ?_
                                                      refine e_aload_n (i := 0) 204 dX12_sale_203 rfl rfl rfl ?_
                                                      refine e_iload_n (i := 1) 205 dX12_sale_204 rfl rfl rfl ?_
                                                      refine e_iconst 206 dX12_sale_205 rfl ?_
                                                      refine e_callV 209 mt_yX12_leaves mv_yX12_leaves wd_1563 (by decide) dX12_sale_206 at_928 jc_12 rfl rfl rfl (Nat.le_of_ble_eq_true rfl) (jroom (by decide)) rfl (m_leaves (by omega) (by decide) (by (try simp (disch := omega) only [jset_k, jset_j, jset_same, true_and, and_true, hA, rKill_o]); omega) ?_)
                                                      dsimp only [jpush]
                                                      refine e_iconst 210 dX12_sale_209 rfl ?_
                                                      refine e_iload_n (i := 2) 211 dX12_sale_210 rfl rfl rfl ?_
                                                      refine e_imul 212 dX12_sale_211 rfl ?_
                                                      refine e_iload_n (i := 3) 213 dX12_sale_212 rfl rfl rfl ?_
                                                      refine e_isub 214 dX12_sale_213 rfl ?_
                                                      refine e_iret dX12_sale_214 ?_
                                                      first
                                                        | (exact ⟨by omega, hI⟩)
                                                        | (exfalso; omega)
                                                        | ((try subst hM1)
                                                           refine ⟨by first | omega | exact congrArg tkNum (by omega), ?_⟩
                                                           have s1 := step_book2 hI (b := 1) (w := M 929 708) (o := 2083) (v := w32 (M 929 (2083 + M 929 708) + min (max (2 * price - 2 * M 929 (830 + pledge)) 0) (rI (M 929) pledge))) (by omega) (by omega) (by omega) rfl
                                                           have s2 := step_book2 s1 (b := 4) (w := M 929 708) (o := 2986) (v := w32 (M 929 (2986 + M 929 708) + 1)) (by omega) (by omega) (by omega) rfl
                                                           have s3 := step_book2 s2 (b := 5) (w := M 929 708) (o := 3287) (v := w32 (M 929 (3287 + M 929 708) + min (2 * price) (2 * M 929 (830 + pledge) + rI (M 929) pledge))) (by omega) (by omega) (by omega) rfl
                                                           have s4 := step_over s3 (p := pledge) (v := max (2 * price - (2 * M 929 (830 + pledge) + rI (M 929) pledge)) 0) (by (try simp (disch := omega) only [jset_k, jset_j, jset_same, true_and, and_true, cKill_o, rKill_o]); try omega) rfl
                                                           have s5 := step_left2 s4 (p := pledge) (by (try simp (disch := omega) only [jset_k, jset_j, jset_same, true_and, and_true, cKill_o, rKill_o]); try omega)
                                                           simp (disch := omega) only [jset_k (k' := 929) (j' := 708), jset_j (j' := 708)] at s5
                                                           have s6 := step_kill s5 (p := pledge) (n := M 929 1310) (n2 := M 929 1310) (by (try simp (disch := omega) only [jset_k, jset_j, jset_same, true_and, and_true, cKill_o, rKill_o]); try omega) (by (try simp (disch := omega) only [jset_k, jset_j, jset_same, true_and, and_true, cKill_o, rKill_o]); try omega)
                                                           refine inv_eq s6 ?_ ?_
                                                           · repeat (first | exact Ceq.rf | refine Ceq.lg ?_ | refine Ceq.rg ?_ | refine Ceq.lk ?_ | refine Ceq.rk ?_ | refine Ceq.lr ?_ | refine Ceq.rr ?_ | refine Ceq.give ?_ (by omega) (by omega) | refine Ceq.kill ?_ (by omega) (by omega) | refine Ceq.set ?_ (by omega) (by omega) (by first | rfl | omega | exact congrArg w32 (by omega)))
                                                           · simp (disch := first | omega | (simp (disch := omega) only [jset_k, jset_j, jset_same, true_and, and_true, cKill_o, rKill_o]; omega)) only [rGive_929, rKill_929, jset_929, cGive_hi, cKill_hi, cEnter_hi, jset_row]
                                                             repeat (first | rfl | refine aGive_cong ?_ (by omega) (by omega) | refine aKill_cong ?_ (by omega) (by omega) | refine rset_cong ?_ (by omega) (by first | rfl | omega | exact congrArg w32 (by omega)))))))
                                    · first
                                       | (exfalso; omega)
                                       | (skip
                                          refine e_iload 93 dX12_sale_91 rfl rfl ?_
                                          refine e_goto 98 dX12_sale_93 (by decide) ?_
                                          refine e_istore (lsn := [(5, _), (4, _), (3, _), (0, _), (1, _), (2, _)]) 100 dX12_sale_98 (by decide) rfl rfl ?_
                                          refine e_aload_n (i := 0) 101 dX12_sale_100 rfl rfl rfl ?_
                                          refine e_getr (j := 1) 104 fl_12_13 dX12_sale_101 at_928 rfl rfl tp_928_1 rfl ?_
                                          refine e_sipush 107 dX12_sale_104 (by decide) rfl ?_
                                          refine e_aload_n (i := 0) 108 dX12_sale_107 rfl rfl rfl ?_
                                          refine e_getr (j := 1) 111 fl_12_13 dX12_sale_108 at_928 rfl rfl tp_928_1 rfl ?_
                                          refine e_sipush 114 dX12_sale_111 (by decide) rfl ?_
                                          refine e_iald 115 dX12_sale_114 ar_929 (by decide) (by decide) rfl (fun r114 => ?_)
                                          refine e_iadd 116 dX12_sale_115 rfl ?_
                                          refine e_dup2 117 dX12_sale_116 rfl rfl rfl ?_
                                          refine e_iald 118 dX12_sale_117 ar_929 (by omega) (by omega) rfl (fun r117 => ?_)
                                          refine e_iload 120 dX12_sale_118 rfl rfl ?_
                                          refine e_iadd 121 dX12_sale_120 rfl ?_
                                          refine e_iastw 122 dX12_sale_121 ar_929 (by omega) (by omega) rfl ?_
                                          refine e_aload_n (i := 0) 123 dX12_sale_122 rfl rfl rfl ?_
                                          refine e_getr (j := 1) 126 fl_12_13 dX12_sale_123 at_928 rfl rfl tp_928_1 rfl ?_
                                          refine e_sipush 129 dX12_sale_126 (by decide) rfl ?_
                                          refine e_aload_n (i := 0) 130 dX12_sale_129 rfl rfl rfl ?_
                                          refine e_getr (j := 1) 133 fl_12_13 dX12_sale_130 at_928 rfl rfl tp_928_1 rfl ?_
                                          refine e_sipush 136 dX12_sale_133 (by decide) rfl ?_
                                          refine e_iald 137 dX12_sale_136 ar_929 (by decide) (by decide) rfl (fun r136 => ?_)
                                          simp (disch := omega) only [jset_k, jset_j, jset_same, true_and, and_true] at r136 ⊢
                                          refine e_iadd 138 dX12_sale_137 rfl ?_
                                          refine e_dup2 139 dX12_sale_138 rfl rfl rfl ?_
                                          refine e_iald 140 dX12_sale_139 ar_929 (by omega) (by omega) rfl (fun r139 => ?_)
                                          simp (disch := omega) only [jset_k, jset_j, jset_same, true_and, and_true] at r139 ⊢
                                          refine e_iconst 141 dX12_sale_140 rfl ?_
                                          refine e_iadd 142 dX12_sale_141 rfl ?_
                                          refine e_iastw 143 dX12_sale_142 ar_929 (by omega) (by omega) rfl ?_
                                          refine e_aload_n (i := 0) 144 dX12_sale_143 rfl rfl rfl ?_
                                          refine e_getr (j := 1) 147 fl_12_13 dX12_sale_144 at_928 rfl rfl tp_928_1 rfl ?_
                                          refine e_sipush 150 dX12_sale_147 (by decide) rfl ?_
                                          refine e_aload_n (i := 0) 151 dX12_sale_150 rfl rfl rfl ?_
                                          refine e_getr (j := 1) 154 fl_12_13 dX12_sale_151 at_928 rfl rfl tp_928_1 rfl ?_
                                          refine e_sipush 157 dX12_sale_154 (by decide) rfl ?_
                                          refine e_iald 158 dX12_sale_157 ar_929 (by decide) (by decide) rfl (fun r157 => ?_)
                                          simp (disch := omega) only [jset_k, jset_j, jset_same, true_and, and_true] at r157 ⊢
                                          refine e_iadd 159 dX12_sale_158 rfl ?_
                                          refine e_dup2 160 dX12_sale_159 rfl rfl rfl ?_
                                          refine e_iald 161 dX12_sale_160 ar_929 (by omega) (by omega) rfl (fun r160 => ?_)
                                          simp (disch := omega) only [jset_k, jset_j, jset_same, true_and, and_true] at r160 ⊢
                                          refine e_iconst 162 dX12_sale_161 rfl ?_
                                          refine e_iload_n (i := 2) 163 dX12_sale_162 rfl rfl rfl ?_
                                          refine e_imul 164 dX12_sale_163 rfl ?_
                                          refine e_iload_n (i := 3) 165 dX12_sale_164 rfl rfl rfl ?_
                                          refine e_icmp_ge 168 174 dX12_sale_165 (by omega) (by omega) (by decide) rfl (fun b165 => ?_) (fun b165 => ?_)
                                          · first
                                             | (exfalso; omega)
                                             | (skip
                                                refine e_iload_n (i := 3) 175 dX12_sale_174 rfl rfl rfl ?_
                                                refine e_iadd 176 dX12_sale_175 rfl ?_
                                                refine e_iastw 177 dX12_sale_176 ar_929 (by omega) (by omega) rfl ?_
                                                refine e_aload_n (i := 0) 178 dX12_sale_177 rfl rfl rfl ?_
                                                refine e_getr (j := 1) 181 fl_12_13 dX12_sale_178 at_928 rfl rfl tp_928_1 rfl ?_
                                                refine e_sipush 184 dX12_sale_181 (by decide) rfl ?_
                                                refine e_iload_n (i := 1) 185 dX12_sale_184 rfl rfl rfl ?_
                                                refine e_iadd 186 dX12_sale_185 rfl ?_
                                                refine e_iconst 187 dX12_sale_186 rfl ?_
                                                refine e_iload_n (i := 2) 188 dX12_sale_187 rfl rfl rfl ?_
                                                refine e_imul 189 dX12_sale_188 rfl ?_
                                                refine e_iload_n (i := 3) 190 dX12_sale_189 rfl rfl rfl ?_
                                                refine e_icmp_le 193 201 dX12_sale_190 (by omega) (by omega) (by decide) rfl (fun b190 => ?_) (fun b190 => ?_)
                                                · first
                                                   | (exfalso; omega)
                                                   | (skip
                                                      refine e_iconst 202 dX12_sale_201 rfl ?_
                                                      refine e_iast 203 dX12_sale_202 ar_929 (by omega) (by omega) (by decide) rfl ?_
                                                      refine e_aload_n (i := 0) 204 dX12_sale_203 rfl rfl rfl ?_
                                                      refine e_iload_n (i := 1) 205 dX12_sale_204 rfl rfl rfl ?_
                                                      refine e_iconst 206 dX12_sale_205 rfl ?_
                                                      refine e_callV 209 mt_yX12_leaves mv_yX12_leaves wd_1563 (by decide) dX12_sale_206 at_928 jc_12 rfl rfl rfl (Nat.le_of_ble_eq_true rfl) (jroom (by decide)) rfl (m_leaves (by omega) (by decide) (by (try simp (disch := omega) only [jset_k, jset_j, jset_same, true_and, and_true, hA, rKill_o]); omega) ?_)
                                                      dsimp only [jpush]
                                                      refine e_iconst 210 dX12_sale_209 rfl ?_
                                                      refine e_iload_n (i := 2) 211 dX12_sale_210 rfl rfl rfl ?_
                                                      refine e_imul 212 dX12_sale_211 rfl ?_
                                                      refine e_iload_n (i := 3) 213 dX12_sale_212 rfl rfl rfl ?_
                                                      refine e_isub 214 dX12_sale_213 rfl ?_
                                                      refine e_iret dX12_sale_214 ?_
                                                      first
                                                        | (exact ⟨by omega, hI⟩)
                                                        | (exfalso; omega)
                                                        | ((try subst hM1)
                                                           refine ⟨by first | omega | exact congrArg tkNum (by omega), ?_⟩
                                                           have s1 := step_book2 hI (b := 1) (w := M 929 708) (o := 2083) (v := w32 (M 929 (2083 + M 929 708) + min (max (2 * price - 2 * M 929 (830 + pledge)) 0) (rI (M 929) pledge))) (by omega) (by omega) (by omega) rfl
                                                           have s2 := step_book2 s1 (b := 4) (w := M 929 708) (o := 2986) (v := w32 (M 929 (2986 + M 929 708) + 1)) (by omega) (by omega) (by omega) rfl
                                                           have s3 := step_book2 s2 (b := 5) (w := M 929 708) (o := 3287) (v := w32 (M 929 (3287 + M 929 708) + min (2 * price) (2 * M 929 (830 + pledge) + rI (M 929) pledge))) (by omega) (by omega) (by omega) rfl
                                                           have s4 := step_over s3 (p := pledge) (v := max (2 * price - (2 * M 929 (830 + pledge) + rI (M 929) pledge)) 0) (by (try simp (disch := omega) only [jset_k, jset_j, jset_same, true_and, and_true, cKill_o, rKill_o]); try omega) rfl
                                                           have s5 := step_left2 s4 (p := pledge) (by (try simp (disch := omega) only [jset_k, jset_j, jset_same, true_and, and_true, cKill_o, rKill_o]); try omega)
                                                           simp (disch := omega) only [jset_k (k' := 929) (j' := 708), jset_j (j' := 708)] at s5
                                                           have s6 := step_kill s5 (p := pledge) (n := M 929 1310) (n2 := M 929 1310) (by (try simp (disch := omega) only [jset_k, jset_j, jset_same, true_and, and_true, cKill_o, rKill_o]); try omega) (by (try simp (disch := omega) only [jset_k, jset_j, jset_same, true_and, and_true, cKill_o, rKill_o]); try omega)
                                                           refine inv_eq s6 ?_ ?_
                                                           · repeat (first | exact Ceq.rf | refine Ceq.lg ?_ | refine Ceq.rg ?_ | refine Ceq.lk ?_ | refine Ceq.rk ?_ | refine Ceq.lr ?_ | refine Ceq.rr ?_ | refine Ceq.give ?_ (by omega) (by omega) | refine Ceq.kill ?_ (by omega) (by omega) | refine Ceq.set ?_ (by omega) (by omega) (by first | rfl | omega | exact congrArg w32 (by omega)))
                                                           · simp (disch := first | omega | (simp (disch := omega) only [jset_k, jset_j, jset_same, true_and, and_true, cKill_o, rKill_o]; omega)) only [rGive_929, rKill_929, jset_929, cGive_hi, cKill_hi, cEnter_hi, jset_row]
                                                             repeat (first | rfl | refine aGive_cong ?_ (by omega) (by omega) | refine aKill_cong ?_ (by omega) (by omega) | refine rset_cong ?_ (by omega) (by first | rfl | omega | exact congrArg w32 (by omega)))))
                                                · first
                                                   | (exfalso; omega)
                                                   | (skip
                                                      refine e_iconst 194 dX12_sale_193 rfl ?_
                                                      refine e_iload_n (i := 2) 195 dX12_sale_194 rfl rfl rfl ?_
                                                      refine e_imul 196 dX12_sale_195 rfl ?_
                                                      refine e_iload_n (i := 3) 197 dX12_sale_196 rfl rfl rfl ?_
                                                      refine e_isub 198 dX12_sale_197 rfl ?_
                                                      refine e_goto 202 dX12_sale_198 (by decide) ?_
                                                      refine e_iast 203 dX12_sale_202 ar_929 (by omega) (by omega) (by omega) rfl ?_
                                                      refine e_aload_n (i := 0) 204 dX12_sale_203 rfl rfl rfl ?_
                                                      refine e_iload_n (i := 1) 205 dX12_sale_204 rfl rfl rfl ?_
                                                      refine e_iconst 206 dX12_sale_205 rfl ?_
                                                      refine e_callV 209 mt_yX12_leaves mv_yX12_leaves wd_1563 (by decide) dX12_sale_206 at_928 jc_12 rfl rfl rfl (Nat.le_of_ble_eq_true rfl) (jroom (by decide)) rfl (m_leaves (by omega) (by decide) (by (try simp (disch := omega) only [jset_k, jset_j, jset_same, true_and, and_true, hA, rKill_o]); omega) ?_)
                                                      dsimp only [jpush]
                                                      refine e_iconst 210 dX12_sale_209 rfl ?_
                                                      refine e_iload_n (i := 2) 211 dX12_sale_210 rfl rfl rfl ?_
                                                      refine e_imul 212 dX12_sale_211 rfl ?_
                                                      refine e_iload_n (i := 3) 213 dX12_sale_212 rfl rfl rfl ?_
                                                      refine e_isub 214 dX12_sale_213 rfl ?_
                                                      refine e_iret dX12_sale_214 ?_
                                                      first
                                                        | (exact ⟨by omega, hI⟩)
                                                        | (exfalso; omega)
                                                        | ((try subst hM1)
                                                           refine ⟨by first | omega | exact congrArg tkNum (by omega), ?_⟩
                                                           have s1 := step_book2 hI (b := 1) (w := M 929 708) (o := 2083) (v := w32 (M 929 (2083 + M 929 708) + min (max (2 * price - 2 * M 929 (830 + pledge)) 0) (rI (M 929) pledge))) (by omega) (by omega) (by omega) rfl
                                                           have s2 := step_book2 s1 (b := 4) (w := M 929 708) (o := 2986) (v := w32 (M 929 (2986 + M 929 708) + 1)) (by omega) (by omega) (by omega) rfl
                                                           have s3 := step_book2 s2 (b := 5) (w := M 929 708) (o := 3287) (v := w32 (M 929 (3287 + M 929 708) + min (2 * price) (2 * M 929 (830 + pledge) + rI (M 929) pledge))) (by omega) (by omega) (by omega) rfl
                                                           have s4 := step_over s3 (p := pledge) (v := max (2 * price - (2 * M 929 (830 + pledge) + rI (M 929) pledge)) 0) (by (try simp (disch := omega) only [jset_k, jset_j, jset_same, true_and, and_true, cKill_o, rKill_o]); try omega) rfl
                                                           have s5 := step_left2 s4 (p := pledge) (by (try simp (disch := omega) only [jset_k, jset_j, jset_same, true_and, and_true, cKill_o, rKill_o]); try omega)
                                                           simp (disch := omega) only [jset_k (k' := 929) (j' := 708), jset_j (j' := 708)] at s5
                                                           have s6 := step_kill s5 (p := pledge) (n := M 929 1310) (n2 := M 929 1310) (by (try simp (disch := omega) only [jset_k, jset_j, jset_same, true_and, and_true, cKill_o, rKill_o]); try omega) (by (try simp (disch := omega) only [jset_k, jset_j, jset_same, true_and, and_true, cKill_o, rKill_o]); try omega)
                                                           refine inv_eq s6 ?_ ?_
                                                           · repeat (first | exact Ceq.rf | refine Ceq.lg ?_ | refine Ceq.rg ?_ | refine Ceq.lk ?_ | refine Ceq.rk ?_ | refine Ceq.lr ?_ | refine Ceq.rr ?_ | refine Ceq.give ?_ (by omega) (by omega) | refine Ceq.kill ?_ (by omega) (by omega) | refine Ceq.set ?_ (by omega) (by omega) (by first | rfl | omega | exact congrArg w32 (by omega)))
                                                           · simp (disch := first | omega | (simp (disch := omega) only [jset_k, jset_j, jset_same, true_and, and_true, cKill_o, rKill_o]; omega)) only [rGive_929, rKill_929, jset_929, cGive_hi, cKill_hi, cEnter_hi, jset_row]
                                                             repeat (first | rfl | refine aGive_cong ?_ (by omega) (by omega) | refine aKill_cong ?_ (by omega) (by omega) | refine rset_cong ?_ (by omega) (by first | rfl | omega | exact congrArg w32 (by omega))))))
                                          · first
                                             | (exfalso; omega)
                                             | (skip
                                                refine e_iconst 169 dX12_sale_168 rfl ?_
                                                refine e_iload_n (i := 2) 170 dX12_sale_169 rfl rfl rfl ?_
                                                refine e_imul 171 dX12_sale_170 rfl ?_
                                                refine e_goto 175 dX12_sale_171 (by decide) ?_
                                                refine e_iadd 176 dX12_sale_175 rfl ?_
                                                refine e_iastw 177 dX12_sale_176 ar_929 (by omega) (by omega) rfl ?_
                                                refine e_aload_n (i := 0) 178 dX12_sale_177 rfl rfl rfl ?_
                                                refine e_getr (j := 1) 181 fl_12_13 dX12_sale_178 at_928 rfl rfl tp_928_1 rfl ?_
                                                refine e_sipush 184 dX12_sale_181 (by decide) rfl ?_
                                                refine e_iload_n (i := 1) 185 dX12_sale_184 rfl rfl rfl ?_
                                                refine e_iadd 186 dX12_sale_185 rfl ?_
                                                refine e_iconst 187 dX12_sale_186 rfl ?_
                                                refine e_iload_n (i := 2) 188 dX12_sale_187 rfl rfl rfl ?_
                                                refine e_imul 189 dX12_sale_188 rfl ?_
                                                refine e_iload_n (i := 3) 190 dX12_sale_189 rfl rfl rfl ?_
                                                refine e_icmp_le 193 201 dX12_sale_190 (by omega) (by omega) (by decide) rfl (fun b190 => ?_) (fun b190 => ?_)
                                                · first
                                                   | (exfalso; omega)
                                                   | (skip
                                                      refine e_iconst 202 dX12_sale_201 rfl ?_
                                                      refine e_iast 203 dX12_sale_202 ar_929 (by omega) (by omega) (by decide) rfl ?_
                                                      refine e_aload_n (i := 0) 204 dX12_sale_203 rfl rfl rfl ?_
                                                      refine e_iload_n (i := 1) 205 dX12_sale_204 rfl rfl rfl ?_
                                                      refine e_iconst 206 dX12_sale_205 rfl ?_
                                                      refine e_callV 209 mt_yX12_leaves mv_yX12_leaves wd_1563 (by decide) dX12_sale_206 at_928 jc_12 rfl rfl rfl (Nat.le_of_ble_eq_true rfl) (jroom (by decide)) rfl (m_leaves (by omega) (by decide) (by (try simp (disch := omega) only [jset_k, jset_j, jset_same, true_and, and_true, hA, rKill_o]); omega) ?_)
                                                      dsimp only [jpush]
                                                      refine e_iconst 210 dX12_sale_209 rfl ?_
                                                      refine e_iload_n (i := 2) 211 dX12_sale_210 rfl rfl rfl ?_
                                                      refine e_imul 212 dX12_sale_211 rfl ?_
                                                      refine e_iload_n (i := 3) 213 dX12_sale_212 rfl rfl rfl ?_
                                                      refine e_isub 214 dX12_sale_213 rfl ?_
                                                      refine e_iret dX12_sale_214 ?_
                                                      first
                                                        | (exact ⟨by omega, hI⟩)
                                                        | (exfalso; omega)
                                                        | ((try subst hM1)
                                                           refine ⟨by first | omega | exact congrArg tkNum (by omega), ?_⟩
                                                           have s1 := step_book2 hI (b := 1) (w := M 929 708) (o := 2083) (v := w32 (M 929 (2083 + M 929 708) + min (max (2 * price - 2 * M 929 (830 + pledge)) 0) (rI (M 929) pledge))) (by omega) (by omega) (by omega) rfl
                                                           have s2 := step_book2 s1 (b := 4) (w := M 929 708) (o := 2986) (v := w32 (M 929 (2986 + M 929 708) + 1)) (by omega) (by omega) (by omega) rfl
                                                           have s3 := step_book2 s2 (b := 5) (w := M 929 708) (o := 3287) (v := w32 (M 929 (3287 + M 929 708) + min (2 * price) (2 * M 929 (830 + pledge) + rI (M 929) pledge))) (by omega) (by omega) (by omega) rfl
                                                           have s4 := step_over s3 (p := pledge) (v := max (2 * price - (2 * M 929 (830 + pledge) + rI (M 929) pledge)) 0) (by (try simp (disch := omega) only [jset_k, jset_j, jset_same, true_and, and_true, cKill_o, rKill_o]); try omega) rfl
                                                           have s5 := step_left2 s4 (p := pledge) (by (try simp (disch := omega) only [jset_k, jset_j, jset_same, true_and, and_true, cKill_o, rKill_o]); try omega)
                                                           simp (disch := omega) only [jset_k (k' := 929) (j' := 708), jset_j (j' := 708)] at s5
                                                           have s6 := step_kill s5 (p := pledge) (n := M 929 1310) (n2 := M 929 1310) (by (try simp (disch := omega) only [jset_k, jset_j, jset_same, true_and, and_true, cKill_o, rKill_o]); try omega) (by (try simp (disch := omega) only [jset_k, jset_j, jset_same, true_and, and_true, cKill_o, rKill_o]); try omega)
                                                           refine inv_eq s6 ?_ ?_
                                                           · repeat (first | exact Ceq.rf | refine Ceq.lg ?_ | refine Ceq.rg ?_ | refine Ceq.lk ?_ | refine Ceq.rk ?_ | refine Ceq.lr ?_ | refine Ceq.rr ?_ | refine Ceq.give ?_ (by omega) (by omega) | refine Ceq.kill ?_ (by omega) (by omega) | refine Ceq.set ?_ (by omega) (by omega) (by first | rfl | omega | exact congrArg w32 (by omega)))
                                                           · simp (disch := first | omega | (simp (disch := omega) only [jset_k, jset_j, jset_same, true_and, and_true, cKill_o, rKill_o]; omega)) only [rGive_929, rKill_929, jset_929, cGive_hi, cKill_hi, cEnter_hi, jset_row]
                                                             repeat (first | rfl | refine aGive_cong ?_ (by omega) (by omega) | refine aKill_cong ?_ (by omega) (by omega) | refine rset_cong ?_ (by omega) (by first | rfl | omega | exact congrArg w32 (by omega)))))
                                                · first
                                                   | (exfalso; omega)
                                                   | (skip
                                                      refine e_iconst 194 dX12_sale_193 rfl ?_
                                                      refine e_iload_n (i := 2) 195 dX12_sale_194 rfl rfl rfl ?_
                                                      refine e_imul 196 dX12_sale_195 rfl ?_
                                                      refine e_iload_n (i := 3) 197 dX12_sale_196 rfl rfl rfl ?_
                                                      refine e_isub 198 dX12_sale_197 rfl ?_
                                                      refine e_goto 202 dX12_sale_198 (by decide) ?_
                                                      refine e_iast 203 dX12_sale_202 ar_929 (by omega) (by omega) (by omega) rfl ?_
                                                      refine e_aload_n (i := 0) 204 dX12_sale_203 rfl rfl rfl ?_
                                                      refine e_iload_n (i := 1) 205 dX12_sale_204 rfl rfl rfl ?_
                                                      refine e_iconst 206 dX12_sale_205 rfl ?_
                                                      refine e_callV 209 mt_yX12_leaves mv_yX12_leaves wd_1563 (by decide) dX12_sale_206 at_928 jc_12 rfl rfl rfl (Nat.le_of_ble_eq_true rfl) (jroom (by decide)) rfl (m_leaves (by omega) (by decide) (by (try simp (disch := omega) only [jset_k, jset_j, jset_same, true_and, and_true, hA, rKill_o]); omega) ?_)
                                                      dsimp only [jpush]
                                                      refine e_iconst 210 dX12_sale_209 rfl ?_
                                                      refine e_iload_n (i := 2) 211 dX12_sale_210 rfl rfl rfl ?_
                                                      refine e_imul 212 dX12_sale_211 rfl ?_
                                                      refine e_iload_n (i := 3) 213 dX12_sale_212 rfl rfl rfl ?_
                                                      refine e_isub 214 dX12_sale_213 rfl ?_
                                                      refine e_iret dX12_sale_214 ?_
                                                      first
                                                        | (exact ⟨by omega, hI⟩)
                                                        | (exfalso; omega)
                                                        | ((try subst hM1)
                                                           refine ⟨by first | omega | exact congrArg tkNum (by omega), ?_⟩
                                                           have s1 := step_book2 hI (b := 1) (w := M 929 708) (o := 2083) (v := w32 (M 929 (2083 + M 929 708) + min (max (2 * price - 2 * M 929 (830 + pledge)) 0) (rI (M 929) pledge))) (by omega) (by omega) (by omega) rfl
                                                           have s2 := step_book2 s1 (b := 4) (w := M 929 708) (o := 2986) (v := w32 (M 929 (2986 + M 929 708) + 1)) (by omega) (by omega) (by omega) rfl
                                                           have s3 := step_book2 s2 (b := 5) (w := M 929 708) (o := 3287) (v := w32 (M 929 (3287 + M 929 708) + min (2 * price) (2 * M 929 (830 + pledge) + rI (M 929) pledge))) (by omega) (by omega) (by omega) rfl
                                                           have s4 := step_over s3 (p := pledge) (v := max (2 * price - (2 * M 929 (830 + pledge) + rI (M 929) pledge)) 0) (by (try simp (disch := omega) only [jset_k, jset_j, jset_same, true_and, and_true, cKill_o, rKill_o]); try omega) rfl
                                                           have s5 := step_left2 s4 (p := pledge) (by (try simp (disch := omega) only [jset_k, jset_j, jset_same, true_and, and_true, cKill_o, rKill_o]); try omega)
                                                           simp (disch := omega) only [jset_k (k' := 929) (j' := 708), jset_j (j' := 708)] at s5
                                                           have s6 := step_kill s5 (p := pledge) (n := M 929 1310) (n2 := M 929 1310) (by (try simp (disch := omega) only [jset_k, jset_j, jset_same, true_and, and_true, cKill_o, rKill_o]); try omega) (by (try simp (disch := omega) only [jset_k, jset_j, jset_same, true_and, and_true, cKill_o, rKill_o]); try omega)
                                                           refine inv_eq s6 ?_ ?_
                                                           · repeat (first | exact Ceq.rf | refine Ceq.lg ?_ | refine Ceq.rg ?_ | refine Ceq.lk ?_ | refine Ceq.rk ?_ | refine Ceq.lr ?_ | refine Ceq.rr ?_ | refine Ceq.give ?_ (by omega) (by omega) | refine Ceq.kill ?_ (by omega) (by omega) | refine Ceq.set ?_ (by omega) (by omega) (by first | rfl | omega | exact congrArg w32 (by omega)))
                                                           · simp (disch := first | omega | (simp (disch := omega) only [jset_k, jset_j, jset_same, true_and, and_true, cKill_o, rKill_o]; omega)) only [rGive_929, rKill_929, jset_929, cGive_hi, cKill_hi, cEnter_hi, jset_row]
                                                             repeat (first | rfl | refine aGive_cong ?_ (by omega) (by omega) | refine aKill_cong ?_ (by omega) (by omega) | refine rset_cong ?_ (by omega) (by first | rfl | omega | exact congrArg w32 (by omega))))))))
                              · first
                                 | (exfalso; omega)
                                 | (skip
                                    refine e_iconst 81 dX12_sale_80 rfl ?_
                                    refine e_goto 98 dX12_sale_81 (by decide) ?_
                                    refine e_istore (lsn := [(5, _), (4, _), (3, _), (0, _), (1, _), (2, _)]) 100 dX12_sale_98 (by decide) rfl rfl ?_
                                    refine e_aload_n (i := 0) 101 dX12_sale_100 rfl rfl rfl ?_
                                    refine e_getr (j := 1) 104 fl_12_13 dX12_sale_101 at_928 rfl rfl tp_928_1 rfl ?_
                                    refine e_sipush 107 dX12_sale_104 (by decide) rfl ?_
                                    refine e_aload_n (i := 0) 108 dX12_sale_107 rfl rfl rfl ?_
                                    refine e_getr (j := 1) 111 fl_12_13 dX12_sale_108 at_928 rfl rfl tp_928_1 rfl ?_
                                    refine e_sipush 114 dX12_sale_111 (by decide) rfl ?_
                                    refine e_iald 115 dX12_sale_114 ar_929 (by decide) (by decide) rfl (fun r114 => ?_)
                                    refine e_iadd 116 dX12_sale_115 rfl ?_
                                    refine e_dup2 117 dX12_sale_116 rfl rfl rfl ?_
                                    refine e_iald 118 dX12_sale_117 ar_929 (by omega) (by omega) rfl (fun r117 => ?_)
                                    refine e_iload 120 dX12_sale_118 rfl rfl ?_
                                    refine e_iadd 121 dX12_sale_120 rfl ?_
                                    refine e_iastw 122 dX12_sale_121 ar_929 (by omega) (by omega) rfl ?_
                                    refine e_aload_n (i := 0) 123 dX12_sale_122 rfl rfl rfl ?_
                                    refine e_getr (j := 1) 126 fl_12_13 dX12_sale_123 at_928 rfl rfl tp_928_1 rfl ?_
                                    refine e_sipush 129 dX12_sale_126 (by decide) rfl ?_
                                    refine e_aload_n (i := 0) 130 dX12_sale_129 rfl rfl rfl ?_
                                    refine e_getr (j := 1) 133 fl_12_13 dX12_sale_130 at_928 rfl rfl tp_928_1 rfl ?_
                                    refine e_sipush 136 dX12_sale_133 (by decide) rfl ?_
                                    refine e_iald 137 dX12_sale_136 ar_929 (by decide) (by decide) rfl (fun r136 => ?_)
                                    simp (disch := omega) only [jset_k, jset_j, jset_same, true_and, and_true] at r136 ⊢
                                    refine e_iadd 138 dX12_sale_137 rfl ?_
                                    refine e_dup2 139 dX12_sale_138 rfl rfl rfl ?_
                                    refine e_iald 140 dX12_sale_139 ar_929 (by omega) (by omega) rfl (fun r139 => ?_)
                                    simp (disch := omega) only [jset_k, jset_j, jset_same, true_and, and_true] at r139 ⊢
                                    refine e_iconst 141 dX12_sale_140 rfl ?_
                                    refine e_iadd 142 dX12_sale_141 rfl ?_
                                    refine e_iastw 143 dX12_sale_142 ar_929 (by omega) (by omega) rfl ?_
                                    refine e_aload_n (i := 0) 144 dX12_sale_143 rfl rfl rfl ?_
                                    refine e_getr (j := 1) 147 fl_12_13 dX12_sale_144 at_928 rfl rfl tp_928_1 rfl ?_
                                    refine e_sipush 150 dX12_sale_147 (by decide) rfl ?_
                                    refine e_aload_n (i := 0) 151 dX12_sale_150 rfl rfl rfl ?_
                                    refine e_getr (j := 1) 154 fl_12_13 dX12_sale_151 at_928 rfl rfl tp_928_1 rfl ?_
                                    refine e_sipush 157 dX12_sale_154 (by decide) rfl ?_
                                    refine e_iald 158 dX12_sale_157 ar_929 (by decide) (by decide) rfl (fun r157 => ?_)
                                    simp (disch := omega) only [jset_k, jset_j, jset_same, true_and, and_true] at r157 ⊢
                                    refine e_iadd 159 dX12_sale_158 rfl ?_
                                    refine e_dup2 160 dX12_sale_159 rfl rfl rfl ?_
                                    refine e_iald 161 dX12_sale_160 ar_929 (by omega) (by omega) rfl (fun r160 => ?_)
                                    simp (disch := omega) only [jset_k, jset_j, jset_same, true_and, and_true] at r160 ⊢
                                    refine e_iconst 162 dX12_sale_161 rfl ?_
                                    refine e_iload_n (i := 2) 163 dX12_sale_162 rfl rfl rfl ?_
                                    refine e_imul 164 dX12_sale_163 rfl ?_
                                    refine e_iload_n (i := 3) 165 dX12_sale_164 rfl rfl rfl ?_
                                    refine e_icmp_ge 168 174 dX12_sale_165 (by omega) (by omega) (by decide) rfl (fun b165 => ?_) (fun b165 => ?_)
                                    · first
                                       | (exfalso; omega)
                                       | (skip
                                          refine e_iload_n (i := 3) 175 dX12_sale_174 rfl rfl rfl ?_
                                          refine e_iadd 176 dX12_sale_175 rfl ?_
                                          refine e_iastw 177 dX12_sale_176 ar_929 (by omega) (by omega) rfl ?_
                                          refine e_aload_n (i := 0) 178 dX12_sale_177 rfl rfl rfl ?_
                                          refine e_getr (j := 1) 181 fl_12_13 dX12_sale_178 at_928 rfl rfl tp_928_1 rfl ?_
                                          refine e_sipush 184 dX12_sale_181 (by decide) rfl ?_
                                          refine e_iload_n (i := 1) 185 dX12_sale_184 rfl rfl rfl ?_
                                          refine e_iadd 186 dX12_sale_185 rfl ?_
                                          refine e_iconst 187 dX12_sale_186 rfl ?_
                                          refine e_iload_n (i := 2) 188 dX12_sale_187 rfl rfl rfl ?_
                                          refine e_imul 189 dX12_sale_188 rfl ?_
                                          refine e_iload_n (i := 3) 190 dX12_sale_189 rfl rfl rfl ?_
                                          refine e_icmp_le 193 201 dX12_sale_190 (by omega) (by omega) (by decide) rfl (fun b190 => ?_) (fun b190 => ?_)
                                          · first
                                             | (exfalso; omega)
                                             | (skip
                                                refine e_iconst 202 dX12_sale_201 rfl ?_
                                                refine e_iast 203 dX12_sale_202 ar_929 (by omega) (by omega) (by decide) rfl ?_
                                                refine e_aload_n (i := 0) 204 dX12_sale_203 rfl rfl rfl ?_
                                                refine e_iload_n (i := 1) 205 dX12_sale_204 rfl rfl rfl ?_
                                                refine e_iconst 206 dX12_sale_205 rfl ?_
                                                refine e_callV 209 mt_yX12_leaves mv_yX12_leaves wd_1563 (by decide) dX12_sale_206 at_928 jc_12 rfl rfl rfl (Nat.le_of_ble_eq_true rfl) (jroom (by decide)) rfl (m_leaves (by omega) (by decide) (by (try simp (disch := omega) only [jset_k, jset_j, jset_same, true_and, and_true, hA, rKill_o]); omega) ?_)
                                                dsimp only [jpush]
                                                refine e_iconst 210 dX12_sale_209 rfl ?_
                                                refine e_iload_n (i := 2) 211 dX12_sale_210 rfl rfl rfl ?_
                                                refine e_imul 212 dX12_sale_211 rfl ?_
                                                refine e_iload_n (i := 3) 213 dX12_sale_212 rfl rfl rfl ?_
                                                refine e_isub 214 dX12_sale_213 rfl ?_
                                                refine e_iret dX12_sale_214 ?_
                                                first
                                                  | (exact ⟨by omega, hI⟩)
                                                  | (exfalso; omega)
                                                  | ((try subst hM1)
                                                     refine ⟨by first | omega | exact congrArg tkNum (by omega), ?_⟩
                                                     have s1 := step_book2 hI (b := 1) (w := M 929 708) (o := 2083) (v := w32 (M 929 (2083 + M 929 708) + min (max (2 * price - 2 * M 929 (830 + pledge)) 0) (rI (M 929) pledge))) (by omega) (by omega) (by omega) rfl
                                                     have s2 := step_book2 s1 (b := 4) (w := M 929 708) (o := 2986) (v := w32 (M 929 (2986 + M 929 708) + 1)) (by omega) (by omega) (by omega) rfl
                                                     have s3 := step_book2 s2 (b := 5) (w := M 929 708) (o := 3287) (v := w32 (M 929 (3287 + M 929 708) + min (2 * price) (2 * M 929 (830 + pledge) + rI (M 929) pledge))) (by omega) (by omega) (by omega) rfl
                                                     have s4 := step_over s3 (p := pledge) (v := max (2 * price - (2 * M 929 (830 + pledge) + rI (M 929) pledge)) 0) (by (try simp (disch := omega) only [jset_k, jset_j, jset_same, true_and, and_true, cKill_o, rKill_o]); try omega) rfl
                                                     have s5 := step_left2 s4 (p := pledge) (by (try simp (disch := omega) only [jset_k, jset_j, jset_same, true_and, and_true, cKill_o, rKill_o]); try omega)
                                                     simp (disch := omega) only [jset_k (k' := 929) (j' := 708), jset_j (j' := 708)] at s5
                                                     have s6 := step_kill s5 (p := pledge) (n := M 929 1310) (n2 := M 929 1310) (by (try simp (disch := omega) only [jset_k, jset_j, jset_same, true_and, and_true, cKill_o, rKill_o]); try omega) (by (try simp (disch := omega) only [jset_k, jset_j, jset_same, true_and, and_true, cKill_o, rKill_o]); try omega)
                                                     refine inv_eq s6 ?_ ?_
                                                     · repeat (first | exact Ceq.rf | refine Ceq.lg ?_ | refine Ceq.rg ?_ | refine Ceq.lk ?_ | refine Ceq.rk ?_ | refine Ceq.lr ?_ | refine Ceq.rr ?_ | refine Ceq.give ?_ (by omega) (by omega) | refine Ceq.kill ?_ (by omega) (by omega) | refine Ceq.set ?_ (by omega) (by omega) (by first | rfl | omega | exact congrArg w32 (by omega)))
                                                     · simp (disch := first | omega | (simp (disch := omega) only [jset_k, jset_j, jset_same, true_and, and_true, cKill_o, rKill_o]; omega)) only [rGive_929, rKill_929, jset_929, cGive_hi, cKill_hi, cEnter_hi, jset_row]
                                                       repeat (first | rfl | refine aGive_cong ?_ (by omega) (by omega) | refine aKill_cong ?_ (by omega) (by omega) | refine rset_cong ?_ (by omega) (by first | rfl | omega | exact congrArg w32 (by omega)))))
                                          · first
                                             | (exfalso; omega)
                                             | (skip
                                                refine e_iconst 194 dX12_sale_193 rfl ?_
                                                refine e_iload_n (i := 2) 195 dX12_sale_194 rfl rfl rfl ?_
                                                refine e_imul 196 dX12_sale_195 rfl ?_
                                                refine e_iload_n (i := 3) 197 dX12_sale_196 rfl rfl rfl ?_
                                                refine e_isub 198 dX12_sale_197 rfl ?_
                                                refine e_goto 202 dX12_sale_198 (by decide) ?_
                                                refine e_iast 203 dX12_sale_202 ar_929 (by omega) (by omega) (by omega) rfl ?_
                                                refine e_aload_n (i := 0) 204 dX12_sale_203 rfl rfl rfl ?_
                                                refine e_iload_n (i := 1) 205 dX12_sale_204 rfl rfl rfl ?_
                                                refine e_iconst 206 dX12_sale_205 rfl ?_
                                                refine e_callV 209 mt_yX12_leaves mv_yX12_leaves wd_1563 (by decide) dX12_sale_206 at_928 jc_12 rfl rfl rfl (Nat.le_of_ble_eq_true rfl) (jroom (by decide)) rfl (m_leaves (by omega) (by decide) (by (try simp (disch := omega) only [jset_k, jset_j, jset_same, true_and, and_true, hA, rKill_o]); omega) ?_)
                                                dsimp only [jpush]
                                                refine e_iconst 210 dX12_sale_209 rfl ?_
                                                refine e_iload_n (i := 2) 211 dX12_sale_210 rfl rfl rfl ?_
                                                refine e_imul 212 dX12_sale_211 rfl ?_
                                                refine e_iload_n (i := 3) 213 dX12_sale_212 rfl rfl rfl ?_
                                                refine e_isub 214 dX12_sale_213 rfl ?_
                                                refine e_iret dX12_sale_214 ?_
                                                first
                                                  | (exact ⟨by omega, hI⟩)
                                                  | (exfalso; omega)
                                                  | ((try subst hM1)
                                                     refine ⟨by first | omega | exact congrArg tkNum (by omega), ?_⟩
                                                     have s1 := step_book2 hI (b := 1) (w := M 929 708) (o := 2083) (v := w32 (M 929 (2083 + M 929 708) + min (max (2 * price - 2 * M 929 (830 + pledge)) 0) (rI (M 929) pledge))) (by omega) (by omega) (by omega) rfl
                                                     have s2 := step_book2 s1 (b := 4) (w := M 929 708) (o := 2986) (v := w32 (M 929 (2986 + M 929 708) + 1)) (by omega) (by omega) (by omega) rfl
                                                     have s3 := step_book2 s2 (b := 5) (w := M 929 708) (o := 3287) (v := w32 (M 929 (3287 + M 929 708) + min (2 * price) (2 * M 929 (830 + pledge) + rI (M 929) pledge))) (by omega) (by omega) (by omega) rfl
                                                     have s4 := step_over s3 (p := pledge) (v := max (2 * price - (2 * M 929 (830 + pledge) + rI (M 929) pledge)) 0) (by (try simp (disch := omega) only [jset_k, jset_j, jset_same, true_and, and_true, cKill_o, rKill_o]); try omega) rfl
                                                     have s5 := step_left2 s4 (p := pledge) (by (try simp (disch := omega) only [jset_k, jset_j, jset_same, true_and, and_true, cKill_o, rKill_o]); try omega)
                                                     simp (disch := omega) only [jset_k (k' := 929) (j' := 708), jset_j (j' := 708)] at s5
                                                     have s6 := step_kill s5 (p := pledge) (n := M 929 1310) (n2 := M 929 1310) (by (try simp (disch := omega) only [jset_k, jset_j, jset_same, true_and, and_true, cKill_o, rKill_o]); try omega) (by (try simp (disch := omega) only [jset_k, jset_j, jset_same, true_and, and_true, cKill_o, rKill_o]); try omega)
                                                     refine inv_eq s6 ?_ ?_
                                                     · repeat (first | exact Ceq.rf | refine Ceq.lg ?_ | refine Ceq.rg ?_ | refine Ceq.lk ?_ | refine Ceq.rk ?_ | refine Ceq.lr ?_ | refine Ceq.rr ?_ | refine Ceq.give ?_ (by omega) (by omega) | refine Ceq.kill ?_ (by omega) (by omega) | refine Ceq.set ?_ (by omega) (by omega) (by first | rfl | omega | exact congrArg w32 (by omega)))
                                                     · simp (disch := first | omega | (simp (disch := omega) only [jset_k, jset_j, jset_same, true_and, and_true, cKill_o, rKill_o]; omega)) only [rGive_929, rKill_929, jset_929, cGive_hi, cKill_hi, cEnter_hi, jset_row]
                                                       repeat (first | rfl | refine aGive_cong ?_ (by omega) (by omega) | refine aKill_cong ?_ (by omega) (by omega) | refine rset_cong ?_ (by omega) (by first | rfl | omega | exact congrArg w32 (by omega))))))
                                    · first
                                       | (exfalso; omega)
                                       | (skip
                                          refine e_iconst 169 dX12_sale_168 rfl ?_
                                          refine e_iload_n (i := 2) 170 dX12_sale_169 rfl rfl rfl ?_
                                          refine e_imul 171 dX12_sale_170 rfl ?_
                                          refine e_goto 175 dX12_sale_171 (by decide) ?_
                                          refine e_iadd 176 dX12_sale_175 rfl ?_
                                          refine e_iastw 177 dX12_sale_176 ar_929 (by omega) (by omega) rfl ?_
                                          refine e_aload_n (i := 0) 178 dX12_sale_177 rfl rfl rfl ?_
                                          refine e_getr (j := 1) 181 fl_12_13 dX12_sale_178 at_928 rfl rfl tp_928_1 rfl ?_
                                          refine e_sipush 184 dX12_sale_181 (by decide) rfl ?_
                                          refine e_iload_n (i := 1) 185 dX12_sale_184 rfl rfl rfl ?_
                                          refine e_iadd 186 dX12_sale_185 rfl ?_
                                          refine e_iconst 187 dX12_sale_186 rfl ?_
                                          refine e_iload_n (i := 2) 188 dX12_sale_187 rfl rfl rfl ?_
                                          refine e_imul 189 dX12_sale_188 rfl ?_
                                          refine e_iload_n (i := 3) 190 dX12_sale_189 rfl rfl rfl ?_
                                          refine e_icmp_le 193 201 dX12_sale_190 (by omega) (by omega) (by decide) rfl (fun b190 => ?_) (fun b190 => ?_)
                                          · first
                                             | (exfalso; omega)
                                             | (skip
                                                refine e_iconst 202 dX12_sale_201 rfl ?_
                                                refine e_iast 203 dX12_sale_202 ar_929 (by omega) (by omega) (by decide) rfl ?_
                                                refine e_aload_n (i := 0) 204 dX12_sale_203 rfl rfl rfl ?_
                                                refine e_iload_n (i := 1) 205 dX12_sale_204 rfl rfl rfl ?_
                                                refine e_iconst 206 dX12_sale_205 rfl ?_
                                                refine e_callV 209 mt_yX12_leaves mv_yX12_leaves wd_1563 (by decide) dX12_sale_206 at_928 jc_12 rfl rfl rfl (Nat.le_of_ble_eq_true rfl) (jroom (by decide)) rfl (m_leaves (by omega) (by decide) (by (try simp (disch := omega) only [jset_k, jset_j, jset_same, true_and, and_true, hA, rKill_o]); omega) ?_)
                                                dsimp only [jpush]
                                                refine e_iconst 210 dX12_sale_209 rfl ?_
                                                refine e_iload_n (i := 2) 211 dX12_sale_210 rfl rfl rfl ?_
                                                refine e_imul 212 dX12_sale_211 rfl ?_
                                                refine e_iload_n (i := 3) 213 dX12_sale_212 rfl rfl rfl ?_
                                                refine e_isub 214 dX12_sale_213 rfl ?_
                                                refine e_iret dX12_sale_214 ?_
                                                first
                                                  | (exact ⟨by omega, hI⟩)
                                                  | (exfalso; omega)
                                                  | ((try subst hM1)
                                                     refine ⟨by first | omega | exact congrArg tkNum (by omega), ?_⟩
                                                     have s1 := step_book2 hI (b := 1) (w := M 929 708) (o := 2083) (v := w32 (M 929 (2083 + M 929 708) + min (max (2 * price - 2 * M 929 (830 + pledge)) 0) (rI (M 929) pledge))) (by omega) (by omega) (by omega) rfl
                                                     have s2 := step_book2 s1 (b := 4) (w := M 929 708) (o := 2986) (v := w32 (M 929 (2986 + M 929 708) + 1)) (by omega) (by omega) (by omega) rfl
                                                     have s3 := step_book2 s2 (b := 5) (w := M 929 708) (o := 3287) (v := w32 (M 929 (3287 + M 929 708) + min (2 * price) (2 * M 929 (830 + pledge) + rI (M 929) pledge))) (by omega) (by omega) (by omega) rfl
                                                     have s4 := step_over s3 (p := pledge) (v := max (2 * price - (2 * M 929 (830 + pledge) + rI (M 929) pledge)) 0) (by (try simp (disch := omega) only [jset_k, jset_j, jset_same, true_and, and_true, cKill_o, rKill_o]); try omega) rfl
                                                     have s5 := step_left2 s4 (p := pledge) (by (try simp (disch := omega) only [jset_k, jset_j, jset_same, true_and, and_true, cKill_o, rKill_o]); try omega)
                                                     simp (disch := omega) only [jset_k (k' := 929) (j' := 708), jset_j (j' := 708)] at s5
                                                     have s6 := step_kill s5 (p := pledge) (n := M 929 1310) (n2 := M 929 1310) (by (try simp (disch := omega) only [jset_k, jset_j, jset_same, true_and, and_true, cKill_o, rKill_o]); try omega) (by (try simp (disch := omega) only [jset_k, jset_j, jset_same, true_and, and_true, cKill_o, rKill_o]); try omega)
                                                     refine inv_eq s6 ?_ ?_
                                                     · repeat (first | exact Ceq.rf | refine Ceq.lg ?_ | refine Ceq.rg ?_ | refine Ceq.lk ?_ | refine Ceq.rk ?_ | refine Ceq.lr ?_ | refine Ceq.rr ?_ | refine Ceq.give ?_ (by omega) (by omega) | refine Ceq.kill ?_ (by omega) (by omega) | refine Ceq.set ?_ (by omega) (by omega) (by first | rfl | omega | exact congrArg w32 (by omega)))
                                                     · simp (disch := first | omega | (simp (disch := omega) only [jset_k, jset_j, jset_same, true_and, and_true, cKill_o, rKill_o]; omega)) only [rGive_929, rKill_929, jset_929, cGive_hi, cKill_hi, cEnter_hi, jset_row]
                                                       repeat (first | rfl | refine aGive_cong ?_ (by omega) (by omega) | refine aKill_cong ?_ (by omega) (by omega) | refine rset_cong ?_ (by omega) (by first | rfl | omega | exact congrArg w32 (by omega)))))
                                          · first
                                             | (exfalso; omega)
                                             | (skip
                                                refine e_iconst 194 dX12_sale_193 rfl ?_
                                                refine e_iload_n (i := 2) 195 dX12_sale_194 rfl rfl rfl ?_
                                                refine e_imul 196 dX12_sale_195 rfl ?_
                                                refine e_iload_n (i := 3) 197 dX12_sale_196 rfl rfl rfl ?_
                                                refine e_isub 198 dX12_sale_197 rfl ?_
                                                refine e_goto 202 dX12_sale_198 (by decide) ?_
                                                refine e_iast 203 dX12_sale_202 ar_929 (by omega) (by omega) (by omega) rfl ?_
                                                refine e_aload_n (i := 0) 204 dX12_sale_203 rfl rfl rfl ?_
                                                refine e_iload_n (i := 1) 205 dX12_sale_204 rfl rfl rfl ?_
                                                refine e_iconst 206 dX12_sale_205 rfl ?_
                                                refine e_callV 209 mt_yX12_leaves mv_yX12_leaves wd_1563 (by decide) dX12_sale_206 at_928 jc_12 rfl rfl rfl (Nat.le_of_ble_eq_true rfl) (jroom (by decide)) rfl (m_leaves (by omega) (by decide) (by (try simp (disch := omega) only [jset_k, jset_j, jset_same, true_and, and_true, hA, rKill_o]); omega) ?_)
                                                dsimp only [jpush]
                                                refine e_iconst 210 dX12_sale_209 rfl ?_
                                                refine e_iload_n (i := 2) 211 dX12_sale_210 rfl rfl rfl ?_
                                                refine e_imul 212 dX12_sale_211 rfl ?_
                                                refine e_iload_n (i := 3) 213 dX12_sale_212 rfl rfl rfl ?_
                                                refine e_isub 214 dX12_sale_213 rfl ?_
                                                refine e_iret dX12_sale_214 ?_
                                                first
                                                  | (exact ⟨by omega, hI⟩)
                                                  | (exfalso; omega)
                                                  | ((try subst hM1)
                                                     refine ⟨by first | omega | exact congrArg tkNum (by omega), ?_⟩
                                                     have s1 := step_book2 hI (b := 1) (w := M 929 708) (o := 2083) (v := w32 (M 929 (2083 + M 929 708) + min (max (2 * price - 2 * M 929 (830 + pledge)) 0) (rI (M 929) pledge))) (by omega) (by omega) (by omega) rfl
                                                     have s2 := step_book2 s1 (b := 4) (w := M 929 708) (o := 2986) (v := w32 (M 929 (2986 + M 929 708) + 1)) (by omega) (by omega) (by omega) rfl
                                                     have s3 := step_book2 s2 (b := 5) (w := M 929 708) (o := 3287) (v := w32 (M 929 (3287 + M 929 708) + min (2 * price) (2 * M 929 (830 + pledge) + rI (M 929) pledge))) (by omega) (by omega) (by omega) rfl
                                                     have s4 := step_over s3 (p := pledge) (v := max (2 * price - (2 * M 929 (830 + pledge) + rI (M 929) pledge)) 0) (by (try simp (disch := omega) only [jset_k, jset_j, jset_same, true_and, and_true, cKill_o, rKill_o]); try omega) rfl
                                                     have s5 := step_left2 s4 (p := pledge) (by (try simp (disch := omega) only [jset_k, jset_j, jset_same, true_and, and_true, cKill_o, rKill_o]); try omega)
                                                     simp (disch := omega) only [jset_k (k' := 929) (j' := 708), jset_j (j' := 708)] at s5
                                                     have s6 := step_kill s5 (p := pledge) (n := M 929 1310) (n2 := M 929 1310) (by (try simp (disch := omega) only [jset_k, jset_j, jset_same, true_and, and_true, cKill_o, rKill_o]); try omega) (by (try simp (disch := omega) only [jset_k, jset_j, jset_same, true_and, and_true, cKill_o, rKill_o]); try omega)
                                                     refine inv_eq s6 ?_ ?_
                                                     · repeat (first | exact Ceq.rf | refine Ceq.lg ?_ | refine Ceq.rg ?_ | refine Ceq.lk ?_ | refine Ceq.rk ?_ | refine Ceq.lr ?_ | refine Ceq.rr ?_ | refine Ceq.give ?_ (by omega) (by omega) | refine Ceq.kill ?_ (by omega) (by omega) | refine Ceq.set ?_ (by omega) (by omega) (by first | rfl | omega | exact congrArg w32 (by omega)))
                                                     · simp (disch := first | omega | (simp (disch := omega) only [jset_k, jset_j, jset_same, true_and, and_true, cKill_o, rKill_o]; omega)) only [rGive_929, rKill_929, jset_929, cGive_hi, cKill_hi, cEnter_hi, jset_row]
                                                       repeat (first | rfl | refine aGive_cong ?_ (by omega) (by omega) | refine aKill_cong ?_ (by omega) (by omega) | refine rset_cong ?_ (by omega) (by first | rfl | omega | exact congrArg w32 (by omega))))))))
                        · dsimp only [jpush]
                          first
                           | (exfalso; omega)
                           | (skip
                              refine e_if_ne 41 44 dX12_sale_38 (by decide) (by decide) rfl (fun h => absurd h (by decide)) (fun _ => ?_)
                              refine e_ldc (z := (-1000000)) 43 (ix := 218) wd_1510 (by decide) dX12_sale_41 rfl ?_
                              refine e_iret dX12_sale_43 ?_
                              first
                                | (exact ⟨by omega, hI⟩)
                                | (exfalso; omega))))
            · dsimp only [jpush]
              first
               | (exfalso; omega)
               | (skip
                  refine e_if_eq 21 41 dX12_sale_18 (by decide) (by decide) rfl (fun _ => ?_) (fun h => absurd h (by decide))
                  refine e_ldc (z := (-1000000)) 43 (ix := 218) wd_1510 (by decide) dX12_sale_41 rfl ?_
                  refine e_iret dX12_sale_43 ?_
                  first
                    | (exact ⟨by omega, hI⟩)
                    | (exfalso; omega)))
      · dsimp only [jpush]
        first
         | (exfalso; omega)
         | (skip
            refine e_if_eq 13 41 dX12_sale_10 (by decide) (by decide) rfl (fun _ => ?_) (fun h => absurd h (by decide))
            refine e_ldc (z := (-1000000)) 43 (ix := 218) wd_1510 (by decide) dX12_sale_41 rfl ?_
            refine e_iret dX12_sale_43 ?_
            first
              | (exact ⟨by omega, hI⟩)
              | (exfalso; omega))
    · dsimp only [jpush]
      (try simp (disch := omega) only [jset_k, jset_j, jset_same, true_and, and_true, cKill_o, rKill_o, cEnter, cLeave_1, cLeave_2, rLeave, iOf_set])
      refine e_if_ne 30 41 dX11_sale_27 (by decide) (by decide) rfl (fun h => absurd h (by decide)) (fun _ => ?_)
      refine e_iload_n (i := 2) 31 dX11_sale_30 rfl rfl rfl ?_
      refine e_iconst 32 dX11_sale_31 rfl ?_
      refine e_sipush 35 dX11_sale_32 (by decide) rfl ?_
      refine e_callS 38 mt_yX11_within ms_yX11_within wd_531 (by decide) dX11_sale_35 rfl rfl (Nat.le_of_ble_eq_true rfl) (jroom (by decide)) rfl (c_within (by (try simp (disch := omega) only [jset_k, jset_j, jset_same, true_and, and_true, cKill_o, rKill_o, cEnter, cLeave_1, cLeave_2, rLeave, iOf_set]); omega) (by (try simp (disch := omega) only [jset_k, jset_j, jset_same, true_and, and_true, cKill_o, rKill_o, cEnter, cLeave_1, cLeave_2, rLeave, iOf_set]); omega) (by (try simp (disch := omega) only [jset_k, jset_j, jset_same, true_and, and_true, cKill_o, rKill_o, cEnter, cLeave_1, cLeave_2, rLeave, iOf_set]); omega) (fun w35 => ?_) (fun w35 => ?_))
      · dsimp only [jpush]
        (try simp (disch := omega) only [jset_k, jset_j, jset_same, true_and, and_true, cKill_o, rKill_o, cEnter, cLeave_1, cLeave_2, rLeave, iOf_set])
        refine e_if_ne 41 44 dX11_sale_38 (by decide) (by decide) rfl (fun _ => ?_) (fun h => absurd h (by decide))
        refine e_aload_n (i := 0) 45 dX11_sale_44 rfl rfl rfl ?_
        refine e_getr (j := 0) 48 fl_11_10 dX11_sale_45 at_0 rfl rfl tp_0_0 rfl ?_
        refine e_getr (j := 9) 51 fl_11_200 dX11_sale_48 at_1 rfl rfl tp_1_9 rfl ?_
        refine e_iload_n (i := 1) 52 dX11_sale_51 rfl rfl rfl ?_
        refine e_aald 53 dX11_sale_52 ar_18 (by decide) (by omega) (by omega) (tp_pledge (by omega) (by omega)) rfl ?_
        refine e_astore_n (i := 3) (lsn := [(3, _), (0, _), (1, _), (2, _)]) 54 dX11_sale_53 rfl (by decide) rfl rfl ?_
        refine e_aload_n (i := 0) 55 dX11_sale_54 rfl rfl rfl ?_
        refine e_getr (j := 0) 58 fl_11_10 dX11_sale_55 at_0 rfl rfl tp_0_0 rfl ?_
        refine e_aload_n (i := 3) 59 dX11_sale_58 rfl rfl rfl ?_
        refine e_callV 62 mt_yX8_due mv_yX8_due wd_817 (by decide) dX11_sale_59 at_1 jc_8 rfl rfl rfl (Nat.le_of_ble_eq_true rfl) (jroom (by decide)) rfl (c_due (hC.pOk (by (try simp (disch := omega) only [jset_k, jset_j, jset_same, true_and, and_true, cKill_o, rKill_o, cEnter, cLeave_1, cLeave_2, rLeave, iOf_set]); omega) (by (try simp (disch := omega) only [jset_k, jset_j, jset_same, true_and, and_true, cKill_o, rKill_o, cEnter, cLeave_1, cLeave_2, rLeave, iOf_set]); omega)) ?_)
        dsimp only [jpush]
        (try simp (disch := omega) only [jset_k, jset_j, jset_same, true_and, and_true, cKill_o, rKill_o, cEnter, cLeave_1, cLeave_2, rLeave, iOf_set])
        refine e_istore (lsn := [(4, _), (3, _), (0, _), (1, _), (2, _)]) 64 dX11_sale_62 (by decide) rfl rfl ?_
        refine e_iconst 65 dX11_sale_64 rfl ?_
        refine e_iload_n (i := 2) 66 dX11_sale_65 rfl rfl rfl ?_
        refine e_imul 67 dX11_sale_66 rfl ?_
        refine e_iconst 68 dX11_sale_67 rfl ?_
        refine e_aload_n (i := 3) 69 dX11_sale_68 rfl rfl rfl ?_
        refine e_geti (j := 2) 72 fl_11_259 dX11_sale_69 (at_pledge (by omega) (by omega)) (by decide) rfl rfl (fun r69 => ?_)
        refine e_imul 73 dX11_sale_72 rfl ?_
        refine e_isub 74 dX11_sale_73 rfl ?_
        refine e_iconst 75 dX11_sale_74 rfl ?_
        refine e_maxI 78 wd_893 dX11_sale_75 (by omega) (by decide) (Nat.le_of_ble_eq_true rfl) (jroom (by decide)) rfl ?_
        refine e_istore (lsn := [(5, _), (4, _), (3, _), (0, _), (1, _), (2, _)]) 80 dX11_sale_78 (by decide) rfl rfl ?_
        refine e_aload_n (i := 0) 81 dX11_sale_80 rfl rfl rfl ?_
        refine e_getr (j := 0) 84 fl_11_10 dX11_sale_81 at_0 rfl rfl tp_0_0 rfl ?_
        refine e_iconst 85 dX11_sale_84 rfl ?_
        refine e_iload 87 dX11_sale_85 rfl rfl ?_
        refine e_aload_n (i := 0) 88 dX11_sale_87 rfl rfl rfl ?_
        refine e_getr (j := 0) 91 fl_11_10 dX11_sale_88 at_0 rfl rfl tp_0_0 rfl ?_
        refine e_aload_n (i := 3) 92 dX11_sale_91 rfl rfl rfl ?_
        refine e_callV 95 mt_yX8_interestOf mv_yX8_interestOf wd_835 (by decide) dX11_sale_92 at_1 jc_8 rfl rfl rfl (Nat.le_of_ble_eq_true rfl) (jroom (by decide)) rfl (c_interestOf (hC.pOk (by (try simp (disch := omega) only [jset_k, jset_j, jset_same, true_and, and_true, cKill_o, rKill_o, cEnter, cLeave_1, cLeave_2, rLeave, iOf_set]); omega) (by (try simp (disch := omega) only [jset_k, jset_j, jset_same, true_and, and_true, cKill_o, rKill_o, cEnter, cLeave_1, cLeave_2, rLeave, iOf_set]); omega)) ?_)
        dsimp only [jpush]
        (try simp (disch := omega) only [jset_k, jset_j, jset_same, true_and, and_true, cKill_o, rKill_o, cEnter, cLeave_1, cLeave_2, rLeave, iOf_set])
        refine e_minI 98 wd_894 dX11_sale_95 (by omega) (by omega) (Nat.le_of_ble_eq_true rfl) (jroom (by decide)) rfl ?_
        refine e_callV 101 mt_yX8_enter mv_yX8_enter wd_836 (by decide) dX11_sale_98 at_1 jc_8 rfl rfl rfl (Nat.le_of_ble_eq_true rfl) (jroom (by decide)) rfl (c_enter (by decide) (by (try simp (disch := omega) only [jset_k, jset_j, jset_same, true_and, and_true, cKill_o, rKill_o, cEnter, cLeave_1, cLeave_2, rLeave, iOf_set]); omega) ?_)
        dsimp only [jpush]
        (try simp (disch := omega) only [jset_k, jset_j, jset_same, true_and, and_true, cKill_o, rKill_o, cEnter, cLeave_1, cLeave_2, rLeave, iOf_set])
        refine e_aload_n (i := 0) 102 dX11_sale_101 rfl rfl rfl ?_
        refine e_getr (j := 0) 105 fl_11_10 dX11_sale_102 at_0 rfl rfl tp_0_0 rfl ?_
        refine e_iconst 106 dX11_sale_105 rfl ?_
        refine e_iconst 107 dX11_sale_106 rfl ?_
        refine e_callV 110 mt_yX8_enter mv_yX8_enter wd_836 (by decide) dX11_sale_107 at_1 jc_8 rfl rfl rfl (Nat.le_of_ble_eq_true rfl) (jroom (by decide)) rfl (c_enter (by decide) (by (try simp (disch := omega) only [jset_k, jset_j, jset_same, true_and, and_true, cKill_o, rKill_o, cEnter, cLeave_1, cLeave_2, rLeave, iOf_set]); omega) ?_)
        dsimp only [jpush]
        (try simp (disch := omega) only [jset_k, jset_j, jset_same, true_and, and_true, cKill_o, rKill_o, cEnter, cLeave_1, cLeave_2, rLeave, iOf_set])
        refine e_aload_n (i := 0) 111 dX11_sale_110 rfl rfl rfl ?_
        refine e_getr (j := 0) 114 fl_11_10 dX11_sale_111 at_0 rfl rfl tp_0_0 rfl ?_
        refine e_iconst 115 dX11_sale_114 rfl ?_
        refine e_iconst 116 dX11_sale_115 rfl ?_
        refine e_iload_n (i := 2) 117 dX11_sale_116 rfl rfl rfl ?_
        refine e_imul 118 dX11_sale_117 rfl ?_
        refine e_iload 120 dX11_sale_118 rfl rfl ?_
        refine e_minI 123 wd_894 dX11_sale_120 (by omega) (by omega) (Nat.le_of_ble_eq_true rfl) (jroom (by decide)) rfl ?_
        refine e_callV 126 mt_yX8_enter mv_yX8_enter wd_836 (by decide) dX11_sale_123 at_1 jc_8 rfl rfl rfl (Nat.le_of_ble_eq_true rfl) (jroom (by decide)) rfl (c_enter (by decide) (by (try simp (disch := omega) only [jset_k, jset_j, jset_same, true_and, and_true, cKill_o, rKill_o, cEnter, cLeave_1, cLeave_2, rLeave, iOf_set]); omega) ?_)
        dsimp only [jpush]
        (try simp (disch := omega) only [jset_k, jset_j, jset_same, true_and, and_true, cKill_o, rKill_o, cEnter, cLeave_1, cLeave_2, rLeave, iOf_set])
        refine e_aload_n (i := 3) 127 dX11_sale_126 rfl rfl rfl ?_
        refine e_iconst 128 dX11_sale_127 rfl ?_
        refine e_iload_n (i := 2) 129 dX11_sale_128 rfl rfl rfl ?_
        refine e_imul 130 dX11_sale_129 rfl ?_
        refine e_iload 132 dX11_sale_130 rfl rfl ?_
        refine e_isub 133 dX11_sale_132 rfl ?_
        refine e_iconst 134 dX11_sale_133 rfl ?_
        refine e_maxI 137 wd_893 dX11_sale_134 (by omega) (by decide) (Nat.le_of_ble_eq_true rfl) (jroom (by decide)) rfl ?_
        refine e_puti (j := 10) 140 fl_11_285 dX11_sale_137 (at_pledge (by omega) (by omega)) rfl rfl rfl (by omega) rfl ?_
        refine e_aload_n (i := 3) 141 dX11_sale_140 rfl rfl rfl ?_
        refine e_aload_n (i := 0) 142 dX11_sale_141 rfl rfl rfl ?_
        refine e_getr (j := 0) 145 fl_11_10 dX11_sale_142 at_0 rfl rfl tp_0_0 rfl ?_
        refine e_geti (j := 4) 148 fl_11_174 dX11_sale_145 at_1 (by decide) rfl rfl (fun r145 => ?_)
        simp (disch := omega) only [jset_k, jset_j, jset_same, true_and, and_true, cKill_o, rKill_o, cEnter, cLeave_1, cLeave_2, rLeave, iOf_set] at r145 ⊢
        refine e_puti (j := 9) 151 fl_11_288 dX11_sale_148 (at_pledge (by omega) (by omega)) rfl rfl rfl (by omega) rfl ?_
        refine e_aload_n (i := 0) 152 dX11_sale_151 rfl rfl rfl ?_
        refine e_getr (j := 0) 155 fl_11_10 dX11_sale_152 at_0 rfl rfl tp_0_0 rfl ?_
        refine e_iload_n (i := 1) 156 dX11_sale_155 rfl rfl rfl ?_
        refine e_iconst 157 dX11_sale_156 rfl ?_
        refine e_callV 160 mt_yX8_leave mv_yX8_leave wd_837 (by decide) dX11_sale_157 at_1 jc_8 rfl rfl rfl (Nat.le_of_ble_eq_true rfl) (jroom (by decide)) rfl (c_leave (by (try simp (disch := omega) only [jset_k, jset_j, jset_same, true_and, and_true, cKill_o, rKill_o, cEnter, cLeave_1, cLeave_2, rLeave, iOf_set]); omega) (by decide) (by (try simp (disch := omega) only [jset_k, jset_j, jset_same, true_and, and_true, cKill_o]); omega) ?_)
        dsimp only [jpush]
        (try simp (disch := omega) only [jset_k, jset_j, jset_same, true_and, and_true, cKill_o, rKill_o, cEnter, cLeave_1, cLeave_2, rLeave, iOf_set])
        refine e_iconst 161 dX11_sale_160 rfl ?_
        refine e_iload_n (i := 2) 162 dX11_sale_161 rfl rfl rfl ?_
        refine e_imul 163 dX11_sale_162 rfl ?_
        refine e_iload 165 dX11_sale_163 rfl rfl ?_
        refine e_isub 166 dX11_sale_165 rfl ?_
        refine e_iret dX11_sale_166 ?_
        refine mem_gen (P := fun M1 => jCt yX12_sale cX12_sale 6 (some .int) 4 [jR 928, jI pledge, jI price] M1 (fun z2 M2 => _ = z2 ∧ Inv M2)) (fun M1 hM1 => ?_)
        have hA : M1 929 = M 929 := by rw [hM1]; simp (disch := first | omega | (simp (disch := omega) only [jset_k, jset_j, jset_same, true_and, and_true, cKill_o, rKill_o]; omega)) only [rGive_929, rKill_929, jset_929, cGive_hi, cKill_hi, cEnter_hi, jset_row]
        have hT : M1 928 0 = 0 := by rw [hM1]; simp (disch := first | omega | (simp (disch := omega) only [jset_k, jset_j, jset_same, true_and, and_true, cKill_o, rKill_o]; omega)) only [rGive_929, rKill_929, jset_929, cGive_hi, cKill_hi, cEnter_hi, jset_row]; exact hI.1
        refine jCt_of mt_yX12_sale (Nat.le_of_ble_eq_true rfl) (fun X2 => ?_)
        refine e_aload_n (i := 0) 1 dX12_sale_0 rfl rfl rfl ?_
        refine e_iconst 2 dX12_sale_1 rfl ?_
        refine e_put0 (j := 0) 5 fl_12_1 dX12_sale_2 at_928 rfl rfl rfl (by decide) (by first | exact hT | (simp (disch := omega) only [jset_k, jset_j, jset_same, true_and, and_true, hA, cKill_o, rKill_o, cEnter, cLeave_1, cLeave_2, rLeave, iOf_set]; exact hT)) rfl ?_
        refine e_aload_n (i := 0) 6 dX12_sale_5 rfl rfl rfl ?_
        refine e_iload_n (i := 1) 7 dX12_sale_6 rfl rfl rfl ?_
        refine e_callV 10 mt_yX12_isPledge mv_yX12_isPledge wd_1579 (by decide) dX12_sale_7 at_928 jc_12 rfl rfl rfl (Nat.le_of_ble_eq_true rfl) (jroom (by decide)) rfl (m_isPledge (by (try simp (disch := omega) only [jset_k, jset_j, jset_same, true_and, and_true, hA, cKill_o, rKill_o, cEnter, cLeave_1, cLeave_2, rLeave, iOf_set]); omega) (fun w7 => ?_) (fun w7 => ?_))
        · dsimp only [jpush]
          (try simp (disch := omega) only [jset_k, jset_j, jset_same, true_and, and_true, hA, cKill_o, rKill_o, cEnter, cLeave_1, cLeave_2, rLeave, iOf_set] at w7)
          (try simp (disch := omega) only [jset_k, jset_j, jset_same, true_and, and_true, hA, cKill_o, rKill_o, cEnter, cLeave_1, cLeave_2, rLeave, iOf_set])
          first
           | (exfalso; omega)
           | (skip
              refine e_if_eq 13 41 dX12_sale_10 (by decide) (by decide) rfl (fun h => absurd h (by decide)) (fun _ => ?_)
              refine e_aload_n (i := 0) 14 dX12_sale_13 rfl rfl rfl ?_
              refine e_iload_n (i := 1) 15 dX12_sale_14 rfl rfl rfl ?_
              refine e_callV 18 mt_yX12_isPassed mv_yX12_isPassed wd_1603 (by decide) dX12_sale_15 at_928 jc_12 rfl rfl rfl (Nat.le_of_ble_eq_true rfl) (jroom (by decide)) rfl (m_isPassed (by (try simp (disch := omega) only [jset_k, jset_j, jset_same, true_and, and_true, hA, cKill_o, rKill_o, cEnter, cLeave_1, cLeave_2, rLeave, iOf_set]); omega) (by first | (have := hC.plr (p := pledge) (by (try simp (disch := omega) only [jset_k, jset_j, jset_same, true_and, and_true, hA, cKill_o, rKill_o, cEnter, cLeave_1, cLeave_2, rLeave, iOf_set]); omega) (by (try simp (disch := omega) only [jset_k, jset_j, jset_same, true_and, and_true, hA, cKill_o, rKill_o, cEnter, cLeave_1, cLeave_2, rLeave, iOf_set]); omega); omega) | (simp only [hA]; have := hC.plr (p := pledge) (by (try simp (disch := omega) only [jset_k, jset_j, jset_same, true_and, and_true, hA, cKill_o, rKill_o, cEnter, cLeave_1, cLeave_2, rLeave, iOf_set]); omega) (by (try simp (disch := omega) only [jset_k, jset_j, jset_same, true_and, and_true, hA, cKill_o, rKill_o, cEnter, cLeave_1, cLeave_2, rLeave, iOf_set]); omega); omega)) (fun w15 => ?_) (fun w15 => ?_))
              · dsimp only [jpush]
                (try simp (disch := omega) only [jset_k, jset_j, jset_same, true_and, and_true, hA, cKill_o, rKill_o, cEnter, cLeave_1, cLeave_2, rLeave, iOf_set] at w15)
                (try simp (disch := omega) only [jset_k, jset_j, jset_same, true_and, and_true, hA, cKill_o, rKill_o, cEnter, cLeave_1, cLeave_2, rLeave, iOf_set])
                first
                 | (exfalso; omega)
                 | (skip
                    refine e_if_eq 21 41 dX12_sale_18 (by decide) (by decide) rfl (fun h => absurd h (by decide)) (fun _ => ?_)
                    refine e_aload_n (i := 0) 22 dX12_sale_21 rfl rfl rfl ?_
                    refine e_iload_n (i := 1) 23 dX12_sale_22 rfl rfl rfl ?_
                    refine e_callV 26 mt_yX12_isHeld mv_yX12_isHeld wd_1559 (by decide) dX12_sale_23 at_928 jc_12 rfl rfl rfl (Nat.le_of_ble_eq_true rfl) (jroom (by decide)) rfl (m_isHeld (by (try simp (disch := omega) only [jset_k, jset_j, jset_same, true_and, and_true, hA, cKill_o, rKill_o, cEnter, cLeave_1, cLeave_2, rLeave, iOf_set]); omega) (fun w23 => ?_) (fun w23 => ?_))
                    · dsimp only [jpush]
                      (try simp (disch := omega) only [jset_k, jset_j, jset_same, true_and, and_true, hA, cKill_o, rKill_o, cEnter, cLeave_1, cLeave_2, rLeave, iOf_set] at w23)
                      (try simp (disch := omega) only [jset_k, jset_j, jset_same, true_and, and_true, hA, cKill_o, rKill_o, cEnter, cLeave_1, cLeave_2, rLeave, iOf_set])
                      first
                       | (exfalso; omega)
                       | (skip
                          refine e_if_ne 29 41 dX12_sale_26 (by decide) (by decide) rfl (fun _ => ?_) (fun h => absurd h (by decide))
                          refine e_ldc (z := (-1000000)) 43 (ix := 218) wd_1510 (by decide) dX12_sale_41 rfl ?_
                          refine e_iret dX12_sale_43 ?_
                          first
                            | (exact ⟨by omega, hI⟩)
                            | (exfalso; omega)
                            | ((try subst hM1)
                               refine ⟨by first | omega | exact congrArg tkNum (by omega), ?_⟩
                               have s1 := step_book2 hI (b := 1) (w := M 929 708) (o := 2083) (v := w32 (M 929 (2083 + M 929 708) + min (max (2 * price - 2 * M 929 (830 + pledge)) 0) (rI (M 929) pledge))) (by omega) (by omega) (by omega) rfl
                               have s2 := step_book2 s1 (b := 4) (w := M 929 708) (o := 2986) (v := w32 (M 929 (2986 + M 929 708) + 1)) (by omega) (by omega) (by omega) rfl
                               have s3 := step_book2 s2 (b := 5) (w := M 929 708) (o := 3287) (v := w32 (M 929 (3287 + M 929 708) + min (2 * price) (2 * M 929 (830 + pledge) + rI (M 929) pledge))) (by omega) (by omega) (by omega) rfl
                               have s4 := step_over s3 (p := pledge) (v := max (2 * price - (2 * M 929 (830 + pledge) + rI (M 929) pledge)) 0) (by (try simp (disch := omega) only [jset_k, jset_j, jset_same, true_and, and_true, cKill_o, rKill_o]); try omega) rfl
                               have s5 := step_left2 s4 (p := pledge) (by (try simp (disch := omega) only [jset_k, jset_j, jset_same, true_and, and_true, cKill_o, rKill_o]); try omega)
                               simp (disch := omega) only [jset_k (k' := 929) (j' := 708), jset_j (j' := 708)] at s5
                               have s6 := step_kill s5 (p := pledge) (n := M 929 1310) (n2 := M 929 1310) (by (try simp (disch := omega) only [jset_k, jset_j, jset_same, true_and, and_true, cKill_o, rKill_o]); try omega) (by (try simp (disch := omega) only [jset_k, jset_j, jset_same, true_and, and_true, cKill_o, rKill_o]); try omega)
                               refine inv_eq s6 ?_ ?_
                               · repeat (first | exact Ceq.rf | refine Ceq.lg ?_ | refine Ceq.rg ?_ | refine Ceq.lk ?_ | refine Ceq.rk ?_ | refine Ceq.lr ?_ | refine Ceq.rr ?_ | refine Ceq.give ?_ (by omega) (by omega) | refine Ceq.kill ?_ (by omega) (by omega) | refine Ceq.set ?_ (by omega) (by omega) (by first | rfl | omega | exact congrArg w32 (by omega)))
                               · simp (disch := first | omega | (simp (disch := omega) only [jset_k, jset_j, jset_same, true_and, and_true, cKill_o, rKill_o]; omega)) only [rGive_929, rKill_929, jset_929, cGive_hi, cKill_hi, cEnter_hi, jset_row]
                                 repeat (first | rfl | refine aGive_cong ?_ (by omega) (by omega) | refine aKill_cong ?_ (by omega) (by omega) | refine rset_cong ?_ (by omega) (by first | rfl | omega | exact congrArg w32 (by omega)))))
                    · dsimp only [jpush]
                      (try simp (disch := omega) only [jset_k, jset_j, jset_same, true_and, and_true, hA, cKill_o, rKill_o, cEnter, cLeave_1, cLeave_2, rLeave, iOf_set] at w23)
                      (try simp (disch := omega) only [jset_k, jset_j, jset_same, true_and, and_true, hA, cKill_o, rKill_o, cEnter, cLeave_1, cLeave_2, rLeave, iOf_set])
                      first
                       | (exfalso; omega)
                       | (skip
                          refine e_if_ne 29 41 dX12_sale_26 (by decide) (by decide) rfl (fun h => absurd h (by decide)) (fun _ => ?_)
                          refine e_iload_n (i := 2) 30 dX12_sale_29 rfl rfl rfl ?_
                          refine e_i2l 31 dX12_sale_30 (by omega) rfl ?_
                          refine e_lconst0 32 dX12_sale_31 rfl ?_
                          refine e_ldc2 (z := (9999)) 35 (ix := 213) wd_1501 (by decide) dX12_sale_32 rfl ?_
                          refine e_callS 38 mt_yX12_within ms_yX12_within wd_1390 (by decide) dX12_sale_35 rfl rfl (Nat.le_of_ble_eq_true rfl) (jroom (by decide)) rfl (m_within (by (try simp (disch := omega) only [jset_k, jset_j, jset_same, true_and, and_true, hA, cKill_o, rKill_o, cEnter, cLeave_1, cLeave_2, rLeave, iOf_set]); omega) (by (try simp (disch := omega) only [jset_k, jset_j, jset_same, true_and, and_true, hA, cKill_o, rKill_o, cEnter, cLeave_1, cLeave_2, rLeave, iOf_set]); omega) (by (try simp (disch := omega) only [jset_k, jset_j, jset_same, true_and, and_true, hA, cKill_o, rKill_o, cEnter, cLeave_1, cLeave_2, rLeave, iOf_set]); omega) (fun w35 => ?_) (fun w35 => ?_))
                          · dsimp only [jpush]
                            (try simp (disch := omega) only [jset_k, jset_j, jset_same, true_and, and_true, hA, cKill_o, rKill_o, cEnter, cLeave_1, cLeave_2, rLeave, iOf_set] at w35)
                            (try simp (disch := omega) only [jset_k, jset_j, jset_same, true_and, and_true, hA, cKill_o, rKill_o, cEnter, cLeave_1, cLeave_2, rLeave, iOf_set])
                            first
                             | (exfalso; omega)
                             | (skip
                                refine e_if_ne 41 44 dX12_sale_38 (by decide) (by decide) rfl (fun _ => ?_) (fun h => absurd h (by decide))
                                refine e_aload_n (i := 0) 45 dX12_sale_44 rfl rfl rfl ?_
                                refine e_iload_n (i := 1) 46 dX12_sale_45 rfl rfl rfl ?_
                                refine e_callV 49 mt_yX12_dueOf mv_yX12_dueOf wd_1547 (by decide) dX12_sale_46 at_928 jc_12 rfl rfl rfl (Nat.le_of_ble_eq_true rfl) (jroom (by decide)) rfl (m_dueOf (by first | exact hC.1.okP (by (try simp (disch := omega) only [jset_k, jset_j, jset_same, true_and, and_true, hA, cKill_o, rKill_o, cEnter, cLeave_1, cLeave_2, rLeave, iOf_set]); omega) (by (try simp (disch := omega) only [jset_k, jset_j, jset_same, true_and, and_true, hA, cKill_o, rKill_o, cEnter, cLeave_1, cLeave_2, rLeave, iOf_set]); omega) | (rw [hA]; exact hC.1.okP (by (try simp (disch := omega) only [jset_k, jset_j, jset_same, true_and, and_true, hA, cKill_o, rKill_o, cEnter, cLeave_1, cLeave_2, rLeave, iOf_set]); omega) (by (try simp (disch := omega) only [jset_k, jset_j, jset_same, true_and, and_true, hA, cKill_o, rKill_o, cEnter, cLeave_1, cLeave_2, rLeave, iOf_set]); omega))) ?_)
                                dsimp only [jpush]
                                (try simp (disch := omega) only [jset_k, jset_j, jset_same, true_and, and_true, hA, cKill_o, rKill_o, cEnter, cLeave_1, cLeave_2, rLeave, iOf_set])
                                refine e_istore_n (i := 3) (lsn := [(3, _), (0, _), (1, _), (2, _)]) 50 dX12_sale_49 rfl (by decide) rfl rfl ?_
                                refine e_aload_n (i := 0) 51 dX12_sale_50 rfl rfl rfl ?_
                                refine e_iload_n (i := 1) 52 dX12_sale_51 rfl rfl rfl ?_
                                refine e_callV 55 mt_yX12_interestOf mv_yX12_interestOf wd_1551 (by decide) dX12_sale_52 at_928 jc_12 rfl rfl rfl (Nat.le_of_ble_eq_true rfl) (jroom (by decide)) rfl (m_interestOf (by first | exact hC.1.okP (by (try simp (disch := omega) only [jset_k, jset_j, jset_same, true_and, and_true, hA, cKill_o, rKill_o, cEnter, cLeave_1, cLeave_2, rLeave, iOf_set]); omega) (by (try simp (disch := omega) only [jset_k, jset_j, jset_same, true_and, and_true, hA, cKill_o, rKill_o, cEnter, cLeave_1, cLeave_2, rLeave, iOf_set]); omega) | (rw [hA]; exact hC.1.okP (by (try simp (disch := omega) only [jset_k, jset_j, jset_same, true_and, and_true, hA, cKill_o, rKill_o, cEnter, cLeave_1, cLeave_2, rLeave, iOf_set]); omega) (by (try simp (disch := omega) only [jset_k, jset_j, jset_same, true_and, and_true, hA, cKill_o, rKill_o, cEnter, cLeave_1, cLeave_2, rLeave, iOf_set]); omega))) ?_)
                                dsimp only [jpush]
                                (try simp (disch := omega) only [jset_k, jset_j, jset_same, true_and, and_true, hA, cKill_o, rKill_o, cEnter, cLeave_1, cLeave_2, rLeave, iOf_set])
                                refine e_istore (lsn := [(4, _), (3, _), (0, _), (1, _), (2, _)]) 57 dX12_sale_55 (by decide) rfl rfl ?_
                                refine e_iconst 58 dX12_sale_57 rfl ?_
                                refine e_iload_n (i := 2) 59 dX12_sale_58 rfl rfl rfl ?_
                                refine e_imul 60 dX12_sale_59 rfl ?_
                                refine e_iconst 61 dX12_sale_60 rfl ?_
                                refine e_aload_n (i := 0) 62 dX12_sale_61 rfl rfl rfl ?_
                                refine e_getr (j := 1) 65 fl_12_13 dX12_sale_62 at_928 rfl rfl tp_928_1 rfl ?_
                                refine e_sipush 68 dX12_sale_65 (by decide) rfl ?_
                                refine e_iload_n (i := 1) 69 dX12_sale_68 rfl rfl rfl ?_
                                refine e_iadd 70 dX12_sale_69 rfl ?_
                                refine e_iald 71 dX12_sale_70 ar_929 (by omega) (by omega) rfl (fun r70 => ?_)
                                simp (disch := omega) only [jset_k, jset_j, jset_same, true_and, and_true, hA, cKill_o, rKill_o, cEnter, cLeave_1, cLeave_2, rLeave, iOf_set] at r70 ⊢
                                refine e_imul 72 dX12_sale_71 rfl ?_
                                refine e_isub 73 dX12_sale_72 rfl ?_
                                refine e_istore (lsn := [(5, _), (4, _), (3, _), (0, _), (1, _), (2, _)]) 75 dX12_sale_73 (by decide) rfl rfl ?_
                                refine e_iload 77 dX12_sale_75 rfl rfl ?_
                                refine e_if_ge 80 84 dX12_sale_77 (by omega) (by decide) rfl (fun b77 => ?_) (fun b77 => ?_)
                                · first
                                   | (exfalso; omega)
                                   | (skip
                                      refine e_iload 86 dX12_sale_84 rfl rfl ?_
                                      refine e_iload 88 dX12_sale_86 rfl rfl ?_
                                      refine e_icmp_le 91 96 dX12_sale_88 (by omega) (by omega) (by decide) rfl (fun b88 => ?_) (fun b88 => ?_)
                                      · first
                                         | (exfalso; omega)
                                         | (skip
                                            refine e_iload 98 dX12_sale_96 rfl rfl ?_
                                            refine e_istore (lsn := [(5, _), (4, _), (3, _), (0, _), (1, _), (2, _)]) 100 dX12_sale_98 (by decide) rfl rfl ?_
                                            refine e_aload_n (i := 0) 101 dX12_sale_100 rfl rfl rfl ?_
                                            refine e_getr (j := 1) 104 fl_12_13 dX12_sale_101 at_928 rfl rfl tp_928_1 rfl ?_
                                            refine e_sipush 107 dX12_sale_104 (by decide) rfl ?_
                                            refine e_aload_n (i := 0) 108 dX12_sale_107 rfl rfl rfl ?_
                                            refine e_getr (j := 1) 111 fl_12_13 dX12_sale_108 at_928 rfl rfl tp_928_1 rfl ?_
                                            refine e_sipush 114 dX12_sale_111 (by decide) rfl ?_
                                            refine e_iald 115 dX12_sale_114 ar_929 (by decide) (by decide) rfl (fun r114 => ?_)
                                            simp (disch := omega) only [jset_k, jset_j, jset_same, true_and, and_true, hA, cKill_o, rKill_o, cEnter, cLeave_1, cLeave_2, rLeave, iOf_set] at r114 ⊢
                                            refine e_iadd 116 dX12_sale_115 rfl ?_
                                            refine e_dup2 117 dX12_sale_116 rfl rfl rfl ?_
                                            refine e_iald 118 dX12_sale_117 ar_929 (by omega) (by omega) rfl (fun r117 => ?_)
                                            simp (disch := omega) only [jset_k, jset_j, jset_same, true_and, and_true, hA, cKill_o, rKill_o, cEnter, cLeave_1, cLeave_2, rLeave, iOf_set] at r117 ⊢
                                            refine e_iload 120 dX12_sale_118 rfl rfl ?_
                                            refine e_iadd 121 dX12_sale_120 rfl ?_
                                            refine e_iastw 122 dX12_sale_121 ar_929 (by omega) (by omega) rfl ?_
                                            refine e_aload_n (i := 0) 123 dX12_sale_122 rfl rfl rfl ?_
                                            refine e_getr (j := 1) 126 fl_12_13 dX12_sale_123 at_928 rfl rfl tp_928_1 rfl ?_
                                            refine e_sipush 129 dX12_sale_126 (by decide) rfl ?_
                                            refine e_aload_n (i := 0) 130 dX12_sale_129 rfl rfl rfl ?_
                                            refine e_getr (j := 1) 133 fl_12_13 dX12_sale_130 at_928 rfl rfl tp_928_1 rfl ?_
                                            refine e_sipush 136 dX12_sale_133 (by decide) rfl ?_
                                            refine e_iald 137 dX12_sale_136 ar_929 (by decide) (by decide) rfl (fun r136 => ?_)
                                            simp (disch := omega) only [jset_k, jset_j, jset_same, true_and, and_true, hA, cKill_o, rKill_o, cEnter, cLeave_1, cLeave_2, rLeave, iOf_set] at r136 ⊢
                                            refine e_iadd 138 dX12_sale_137 rfl ?_
                                            refine e_dup2 139 dX12_sale_138 rfl rfl rfl ?_
                                            refine e_iald 140 dX12_sale_139 ar_929 (by omega) (by omega) rfl (fun r139 => ?_)
                                            simp (disch := omega) only [jset_k, jset_j, jset_same, true_and, and_true, hA, cKill_o, rKill_o, cEnter, cLeave_1, cLeave_2, rLeave, iOf_set] at r139 ⊢
                                            refine e_iconst 141 dX12_sale_140 rfl ?_
                                            refine e_iadd 142 dX12_sale_141 rfl ?_
                                            refine e_iastw 143 dX12_sale_142 ar_929 (by omega) (by omega) rfl ?_
                                            refine e_aload_n (i := 0) 144 dX12_sale_143 rfl rfl rfl ?_
                                            refine e_getr (j := 1) 147 fl_12_13 dX12_sale_144 at_928 rfl rfl tp_928_1 rfl ?_
                                            refine e_sipush 150 dX12_sale_147 (by decide) rfl ?_
                                            refine e_aload_n (i := 0) 151 dX12_sale_150 rfl rfl rfl ?_
                                            refine e_getr (j := 1) 154 fl_12_13 dX12_sale_151 at_928 rfl rfl tp_928_1 rfl ?_
                                            refine e_sipush 157 dX12_sale_154 (by decide) rfl ?_
                                            refine e_iald 158 dX12_sale_157 ar_929 (by decide) (by decide) rfl (fun r157 => ?_)
                                            simp (disch := omega) only [jset_k, jset_j, jset_same, true_and, and_true, hA, cKill_o, rKill_o, cEnter, cLeave_1, cLeave_2, rLeave, iOf_set] at r157 ⊢
                                            refine e_iadd 159 dX12_sale_158 rfl ?_
                                            refine e_dup2 160 dX12_sale_159 rfl rfl rfl ?_
                                            refine e_iald 161 dX12_sale_160 ar_929 (by omega) (by omega) rfl (fun r160 => ?_)
                                            simp (disch := omega) only [jset_k, jset_j, jset_same, true_and, and_true, hA, cKill_o, rKill_o, cEnter, cLeave_1, cLeave_2, rLeave, iOf_set] at r160 ⊢
                                            refine e_iconst 162 dX12_sale_161 rfl ?_
                                            refine e_iload_n (i := 2) 163 dX12_sale_162 rfl rfl rfl ?_
                                            refine e_imul 164 dX12_sale_163 rfl ?_
                                            refine e_iload_n (i := 3) 165 dX12_sale_164 rfl rfl rfl ?_
                                            refine e_icmp_ge 168 174 dX12_sale_165 (by omega) (by omega) (by decide) rfl (fun b165 => ?_) (fun b165 => ?_)
                                            · first
                                               | (exfalso; omega)
                                               | (skip
                                                  refine e_iload_n (i := 3) 175 dX12_sale_174 rfl rfl rfl ?_
                                                  refine e_iadd 176 dX12_sale_175 rfl ?_
                                                  refine e_iastw 177 dX12_sale_176 ar_929 (by omega) (by omega) rfl ?_
                                                  refine e_aload_n (i := 0) 178 dX12_sale_177 rfl rfl rfl ?_
                                                  refine e_getr (j := 1) 181 fl_12_13 dX12_sale_178 at_928 rfl rfl tp_928_1 rfl ?_
                                                  refine e_sipush 184 dX12_sale_181 (by decide) rfl ?_
                                                  refine e_iload_n (i := 1) 185 dX12_sale_184 rfl rfl rfl ?_
                                                  refine e_iadd 186 dX12_sale_185 rfl ?_
                                                  refine e_iconst 187 dX12_sale_186 rfl ?_
                                                  refine e_iload_n (i := 2) 188 dX12_sale_187 rfl rfl rfl ?_
                                                  refine e_imul 189 dX12_sale_188 rfl ?_
                                                  refine e_iload_n (i := 3) 190 dX12_sale_189 rfl rfl rfl ?_
                                                  refine e_icmp_le 193 201 dX12_sale_190 (by omega) (by omega) (by decide) rfl (fun b190 => ?_) (fun b190 => ?_)
                                                  · first
                                                     | (exfalso; omega)
                                                     | (skip
                                                        refine e_iconst 202 dX12_sale_201 rfl ?_
                                                        refine e_iast 203 dX12_sale_202 ar_929 (by omega) (by omega) (by decide) rfl ?_
                                                        refine e_aload_n (i := 0) 204 dX12_sale_203 rfl rfl rfl ?_
                                                        refine e_iload_n (i := 1) 205 dX12_sale_204 rfl rfl rfl ?_
                                                        refine e_iconst 206 dX12_sale_205 rfl ?_
                                                        refine e_callV 209 mt_yX12_leaves mv_yX12_leaves wd_1563 (by decide) dX12_sale_206 at_928 jc_12 rfl rfl rfl (Nat.le_of_ble_eq_true rfl) (jroom (by decide)) rfl (m_leaves (by (try simp (disch := omega) only [jset_k, jset_j, jset_same, true_and, and_true, hA, cKill_o, rKill_o, cEnter, cLeave_1, cLeave_2, rLeave, iOf_set]); omega) (by decide) (by (try simp (disch := omega) only [jset_k, jset_j, jset_same, true_and, and_true, hA, rKill_o]); omega) ?_)
                                                        dsimp only [jpush]
                                                        (try simp (disch := omega) only [jset_k, jset_j, jset_same, true_and, and_true, hA, cKill_o, rKill_o, cEnter, cLeave_1, cLeave_2, rLeave, iOf_set])
                                                        refine e_iconst 210 dX12_sale_209 rfl ?_
                                                        refine e_iload_n (i := 2) 211 dX12_sale_210 rfl rfl rfl ?_
                                                        refine e_imul 212 dX12_sale_211 rfl ?_
                                                        refine e_iload_n (i := 3) 213 dX12_sale_212 rfl rfl rfl ?_
                                                        refine e_isub 214 dX12_sale_213 rfl ?_
                                                        refine e_iret dX12_sale_214 ?_
                                                        first
                                                          | (exact ⟨by omega, hI⟩)
                                                          | (exfalso; omega)
                                                          | ((try subst hM1)
                                                             refine ⟨by first | omega | exact congrArg tkNum (by omega), ?_⟩
                                                             have s1 := step_book2 hI (b := 1) (w := M 929 708) (o := 2083) (v := w32 (M 929 (2083 + M 929 708) + min (max (2 * price - 2 * M 929 (830 + pledge)) 0) (rI (M 929) pledge))) (by omega) (by omega) (by omega) rfl
                                                             have s2 := step_book2 s1 (b := 4) (w := M 929 708) (o := 2986) (v := w32 (M 929 (2986 + M 929 708) + 1)) (by omega) (by omega) (by omega) rfl
                                                             have s3 := step_book2 s2 (b := 5) (w := M 929 708) (o := 3287) (v := w32 (M 929 (3287 + M 929 708) + min (2 * price) (2 * M 929 (830 + pledge) + rI (M 929) pledge))) (by omega) (by omega) (by omega) rfl
                                                             have s4 := step_over s3 (p := pledge) (v := max (2 * price - (2 * M 929 (830 + pledge) + rI (M 929) pledge)) 0) (by (try simp (disch := omega) only [jset_k, jset_j, jset_same, true_and, and_true, cKill_o, rKill_o]); try omega) rfl
                                                             have s5 := step_left2 s4 (p := pledge) (by (try simp (disch := omega) only [jset_k, jset_j, jset_same, true_and, and_true, cKill_o, rKill_o]); try omega)
                                                             simp (disch := omega) only [jset_k (k' := 929) (j' := 708), jset_j (j' := 708)] at s5
                                                             have s6 := step_kill s5 (p := pledge) (n := M 929 1310) (n2 := M 929 1310) (by (try simp (disch := omega) only [jset_k, jset_j, jset_same, true_and, and_true, cKill_o, rKill_o]); try omega) (by (try simp (disch := omega) only [jset_k, jset_j, jset_same, true_and, and_true, cKill_o, rKill_o]); try omega)
                                                             refine inv_eq s6 ?_ ?_
                                                             · repeat (first | exact Ceq.rf | refine Ceq.lg ?_ | refine Ceq.rg ?_ | refine Ceq.lk ?_ | refine Ceq.rk ?_ | refine Ceq.lr ?_ | refine Ceq.rr ?_ | refine Ceq.give ?_ (by omega) (by omega) | refine Ceq.kill ?_ (by omega) (by omega) | refine Ceq.set ?_ (by omega) (by omega) (by first | rfl | omega | exact congrArg w32 (by omega)))
                                                             · simp (disch := first | omega | (simp (disch := omega) only [jset_k, jset_j, jset_same, true_and, and_true, cKill_o, rKill_o]; omega)) only [rGive_929, rKill_929, jset_929, cGive_hi, cKill_hi, cEnter_hi, jset_row]
                                                               repeat (first | rfl | refine aGive_cong ?_ (by omega) (by omega) | refine aKill_cong ?_ (by omega) (by omega) | refine rset_cong ?_ (by omega) (by first | rfl | omega | exact congrArg w32 (by omega)))))
                                                  · first
                                                     | (exfalso; omega)
                                                     | (skip
                                                        refine e_iconst 194 dX12_sale_193 rfl ?_
                                                        refine e_iload_n (i := 2) 195 dX12_sale_194 rfl rfl rfl ?_
                                                        refine e_imul 196 dX12_sale_195 rfl ?_
                                                        refine e_iload_n (i := 3) 197 dX12_sale_196 rfl rfl rfl ?_
                                                        refine e_isub 198 dX12_sale_197 rfl ?_
                                                        refine e_goto 202 dX12_sale_198 (by decide) ?_
                                                        refine e_iast 203 dX12_sale_202 ar_929 (by omega) (by omega) (by omega) rfl ?_
                                                        refine e_aload_n (i := 0) 204 dX12_sale_203 rfl rfl rfl ?_
                                                        refine e_iload_n (i := 1) 205 dX12_sale_204 rfl rfl rfl ?_
                                                        refine e_iconst 206 dX12_sale_205 rfl ?_
                                                        refine e_callV 209 mt_yX12_leaves mv_yX12_leaves wd_1563 (by decide) dX12_sale_206 at_928 jc_12 rfl rfl rfl (Nat.le_of_ble_eq_true rfl) (jroom (by decide)) rfl (m_leaves (by (try simp (disch := omega) only [jset_k, jset_j, jset_same, true_and, and_true, hA, cKill_o, rKill_o, cEnter, cLeave_1, cLeave_2, rLeave, iOf_set]); omega) (by decide) (by (try simp (disch := omega) only [jset_k, jset_j, jset_same, true_and, and_true, hA, rKill_o]); omega) ?_)
                                                        dsimp only [jpush]
                                                        (try simp (disch := omega) only [jset_k, jset_j, jset_same, true_and, and_true, hA, cKill_o, rKill_o, cEnter, cLeave_1, cLeave_2, rLeave, iOf_set])
                                                        refine e_iconst 210 dX12_sale_209 rfl ?_
                                                        refine e_iload_n (i := 2) 211 dX12_sale_210 rfl rfl rfl ?_
                                                        refine e_imul 212 dX12_sale_211 rfl ?_
                                                        refine e_iload_n (i := 3) 213 dX12_sale_212 rfl rfl rfl ?_
                                                        refine e_isub 214 dX12_sale_213 rfl ?_
                                                        refine e_iret dX12_sale_214 ?_
                                                        first
                                                          | (exact ⟨by omega, hI⟩)
                                                          | (exfalso; omega)
                                                          | ((try subst hM1)
                                                             refine ⟨by first | omega | exact congrArg tkNum (by omega), ?_⟩
                                                             have s1 := step_book2 hI (b := 1) (w := M 929 708) (o := 2083) (v := w32 (M 929 (2083 + M 929 708) + min (max (2 * price - 2 * M 929 (830 + pledge)) 0) (rI (M 929) pledge))) (by omega) (by omega) (by omega) rfl
                                                             have s2 := step_book2 s1 (b := 4) (w := M 929 708) (o := 2986) (v := w32 (M 929 (2986 + M 929 708) + 1)) (by omega) (by omega) (by omega) rfl
                                                             have s3 := step_book2 s2 (b := 5) (w := M 929 708) (o := 3287) (v := w32 (M 929 (3287 + M 929 708) + min (2 * price) (2 * M 929 (830 + pledge) + rI (M 929) pledge))) (by omega) (by omega) (by omega) rfl
                                                             have s4 := step_over s3 (p := pledge) (v := max (2 * price - (2 * M 929 (830 + pledge) + rI (M 929) pledge)) 0) (by (try simp (disch := omega) only [jset_k, jset_j, jset_same, true_and, and_true, cKill_o, rKill_o]); try omega) rfl
                                                             have s5 := step_left2 s4 (p := pledge) (by (try simp (disch := omega) only [jset_k, jset_j, jset_same, true_and, and_true, cKill_o, rKill_o]); try omega)
                                                             simp (disch := omega) only [jset_k (k' := 929) (j' := 708), jset_j (j' := 708)] at s5
                                                             have s6 := step_kill s5 (p := pledge) (n := M 929 1310) (n2 := M 929 1310) (by (try simp (disch := omega) only [jset_k, jset_j, jset_same, true_and, and_true, cKill_o, rKill_o]); try omega) (by (try simp (disch := omega) only [jset_k, jset_j, jset_same, true_and, and_true, cKill_o, rKill_o]); try omega)
                                                             refine inv_eq s6 ?_ ?_
                                                             · repeat (first | exact Ceq.rf | refine Ceq.lg ?_ | refine Ceq.rg ?_ | refine Ceq.lk ?_ | refine Ceq.rk ?_ | refine Ceq.lr ?_ | refine Ceq.rr ?_ | refine Ceq.give ?_ (by omega) (by omega) | refine Ceq.kill ?_ (by omega) (by omega) | refine Ceq.set ?_ (by omega) (by omega) (by first | rfl | omega | exact congrArg w32 (by omega)))
                                                             · simp (disch := first | omega | (simp (disch := omega) only [jset_k, jset_j, jset_same, true_and, and_true, cKill_o, rKill_o]; omega)) only [rGive_929, rKill_929, jset_929, cGive_hi, cKill_hi, cEnter_hi, jset_row]
                                                               repeat (first | rfl | refine aGive_cong ?_ (by omega) (by omega) | refine aKill_cong ?_ (by omega) (by omega) | refine rset_cong ?_ (by omega) (by first | rfl | omega | exact congrArg w32 (by omega))))))
                                            · first
                                               | (exfalso; omega)
                                               | (skip
                                                  refine e_iconst 169 dX12_sale_168 rfl ?_
                                                  refine e_iload_n (i := 2) 170 dX12_sale_169 rfl rfl rfl ?_
                                                  refine e_imul 171 dX12_sale_170 rfl ?_
                                                  refine e_goto 175 dX12_sale_171 (by decide) ?_
                                                  refine e_iadd 176 dX12_sale_175 rfl ?_
                                                  refine e_iastw 177 dX12_sale_176 ar_929 (by omega) (by omega) rfl ?_
                                                  refine e_aload_n (i := 0) 178 dX12_sale_177 rfl rfl rfl ?_
                                                  refine e_getr (j := 1) 181 fl_12_13 dX12_sale_178 at_928 rfl rfl tp_928_1 rfl ?_
                                                  refine e_sipush 184 dX12_sale_181 (by decide) rfl ?_
                                                  refine e_iload_n (i := 1) 185 dX12_sale_184 rfl rfl rfl ?_
                                                  refine e_iadd 186 dX12_sale_185 rfl ?_
                                                  refine e_iconst 187 dX12_sale_186 rfl ?_
                                                  refine e_iload_n (i := 2) 188 dX12_sale_187 rfl rfl rfl ?_
                                                  refine e_imul 189 dX12_sale_188 rfl ?_
                                                  refine e_iload_n (i := 3) 190 dX12_sale_189 rfl rfl rfl ?_
                                                  refine e_icmp_le 193 201 dX12_sale_190 (by omega) (by omega) (by decide) rfl (fun b190 => ?_) (fun b190 => ?_)
                                                  · first
                                                     | (exfalso; omega)
                                                     | (skip
                                                        refine e_iconst 202 dX12_sale_201 rfl ?_
                                                        refine e_iast 203 dX12_sale_202 ar_929 (by omega) (by omega) (by decide) rfl ?_
                                                        refine e_aload_n (i := 0) 204 dX12_sale_203 rfl rfl rfl ?_
                                                        refine e_iload_n (i := 1) 205 dX12_sale_204 rfl rfl rfl ?_
                                                        refine e_iconst 206 dX12_sale_205 rfl ?_
                                                        refine e_callV 209 mt_yX12_leaves mv_yX12_leaves wd_1563 (by decide) dX12_sale_206 at_928 jc_12 rfl rfl rfl (Nat.le_of_ble_eq_true rfl) (jroom (by decide)) rfl (m_leaves (by (try simp (disch := omega) only [jset_k, jset_j, jset_same, true_and, and_true, hA, cKill_o, rKill_o, cEnter, cLeave_1, cLeave_2, rLeave, iOf_set]); omega) (by decide) (by (try simp (disch := omega) only [jset_k, jset_j, jset_same, true_and, and_true, hA, rKill_o]); omega) ?_)
                                                        dsimp only [jpush]
                                                        (try simp (disch := omega) only [jset_k, jset_j, jset_same, true_and, and_true, hA, cKill_o, rKill_o, cEnter, cLeave_1, cLeave_2, rLeave, iOf_set])
                                                        refine e_iconst 210 dX12_sale_209 rfl ?_
                                                        refine e_iload_n (i := 2) 211 dX12_sale_210 rfl rfl rfl ?_
                                                        refine e_imul 212 dX12_sale_211 rfl ?_
                                                        refine e_iload_n (i := 3) 213 dX12_sale_212 rfl rfl rfl ?_
                                                        refine e_isub 214 dX12_sale_213 rfl ?_
                                                        refine e_iret dX12_sale_214 ?_
                                                        first
                                                          | (exact ⟨by omega, hI⟩)
                                                          | (exfalso; omega)
                                                          | ((try subst hM1)
                                                             refine ⟨by first | omega | exact congrArg tkNum (by omega), ?_⟩
                                                             have s1 := step_book2 hI (b := 1) (w := M 929 708) (o := 2083) (v := w32 (M 929 (2083 + M 929 708) + min (max (2 * price - 2 * M 929 (830 + pledge)) 0) (rI (M 929) pledge))) (by omega) (by omega) (by omega) rfl
                                                             have s2 := step_book2 s1 (b := 4) (w := M 929 708) (o := 2986) (v := w32 (M 929 (2986 + M 929 708) + 1)) (by omega) (by omega) (by omega) rfl
                                                             have s3 := step_book2 s2 (b := 5) (w := M 929 708) (o := 3287) (v := w32 (M 929 (3287 + M 929 708) + min (2 * price) (2 * M 929 (830 + pledge) + rI (M 929) pledge))) (by omega) (by omega) (by omega) rfl
                                                             have s4 := step_over s3 (p := pledge) (v := max (2 * price - (2 * M 929 (830 + pledge) + rI (M 929) pledge)) 0) (by (try simp (disch := omega) only [jset_k, jset_j, jset_same, true_and, and_true, cKill_o, rKill_o]); try omega) rfl
                                                             have s5 := step_left2 s4 (p := pledge) (by (try simp (disch := omega) only [jset_k, jset_j, jset_same, true_and, and_true, cKill_o, rKill_o]); try omega)
                                                             simp (disch := omega) only [jset_k (k' := 929) (j' := 708), jset_j (j' := 708)] at s5
                                                             have s6 := step_kill s5 (p := pledge) (n := M 929 1310) (n2 := M 929 1310) (by (try simp (disch := omega) only [jset_k, jset_j, jset_same, true_and, and_true, cKill_o, rKill_o]); try omega) (by (try simp (disch := omega) only [jset_k, jset_j, jset_same, true_and, and_true, cKill_o, rKill_o]); try omega)
                                                             refine inv_eq s6 ?_ ?_
                                                             · repeat (first | exact Ceq.rf | refine Ceq.lg ?_ | refine Ceq.rg ?_ | refine Ceq.lk ?_ | refine Ceq.rk ?_ | refine Ceq.lr ?_ | refine Ceq.rr ?_ | refine Ceq.give ?_ (by omega) (by omega) | refine Ceq.kill ?_ (by omega) (by omega) | refine Ceq.set ?_ (by omega) (by omega) (by first | rfl | omega | exact congrArg w32 (by omega)))
                                                             · simp (disch := first | omega | (simp (disch := omega) only [jset_k, jset_j, jset_same, true_and, and_true, cKill_o, rKill_o]; omega)) only [rGive_929, rKill_929, jset_929, cGive_hi, cKill_hi, cEnter_hi, jset_row]
                                                               repeat (first | rfl | refine aGive_cong ?_ (by omega) (by omega) | refine aKill_cong ?_ (by omega) (by omega) | refine rset_cong ?_ (by omega) (by first | rfl | omega | exact congrArg w32 (by omega)))))
                                                  · first
                                                     | (exfalso; omega)
                                                     | (skip
                                                        refine e_iconst 194 dX12_sale_193 rfl ?_
                                                        refine e_iload_n (i := 2) 195 dX12_sale_194 rfl rfl rfl ?_
                                                        refine e_imul 196 dX12_sale_195 rfl ?_
                                                        refine e_iload_n (i := 3) 197 dX12_sale_196 rfl rfl rfl ?_
                                                        refine e_isub 198 dX12_sale_197 rfl ?_
                                                        refine e_goto 202 dX12_sale_198 (by decide) ?_
                                                        refine e_iast 203 dX12_sale_202 ar_929 (by omega) (by omega) (by omega) rfl ?_
                                                        refine e_aload_n (i := 0) 204 dX12_sale_203 rfl rfl rfl ?_
                                                        refine e_iload_n (i := 1) 205 dX12_sale_204 rfl rfl rfl ?_
                                                        refine e_iconst 206 dX12_sale_205 rfl ?_
                                                        refine e_callV 209 mt_yX12_leaves mv_yX12_leaves wd_1563 (by decide) dX12_sale_206 at_928 jc_12 rfl rfl rfl (Nat.le_of_ble_eq_true rfl) (jroom (by decide)) rfl (m_leaves (by (try simp (disch := omega) only [jset_k, jset_j, jset_same, true_and, and_true, hA, cKill_o, rKill_o, cEnter, cLeave_1, cLeave_2, rLeave, iOf_set]); omega) (by decide) (by (try simp (disch := omega) only [jset_k, jset_j, jset_same, true_and, and_true, hA, rKill_o]); omega) ?_)
                                                        dsimp only [jpush]
                                                        (try simp (disch := omega) only [jset_k, jset_j, jset_same, true_and, and_true, hA, cKill_o, rKill_o, cEnter, cLeave_1, cLeave_2, rLeave, iOf_set])
                                                        refine e_iconst 210 dX12_sale_209 rfl ?_
                                                        refine e_iload_n (i := 2) 211 dX12_sale_210 rfl rfl rfl ?_
                                                        refine e_imul 212 dX12_sale_211 rfl ?_
                                                        refine e_iload_n (i := 3) 213 dX12_sale_212 rfl rfl rfl ?_
                                                        refine e_isub 214 dX12_sale_213 rfl ?_
                                                        refine e_iret dX12_sale_214 ?_
                                                        first
                                                          | (exact ⟨by omega, hI⟩)
                                                          | (exfalso; omega)
                                                          | ((try subst hM1)
                                                             refine ⟨by first | omega | exact congrArg tkNum (by omega), ?_⟩
                                                             have s1 := step_book2 hI (b := 1) (w := M 929 708) (o := 2083) (v := w32 (M 929 (2083 + M 929 708) + min (max (2 * price - 2 * M 929 (830 + pledge)) 0) (rI (M 929) pledge))) (by omega) (by omega) (by omega) rfl
                                                             have s2 := step_book2 s1 (b := 4) (w := M 929 708) (o := 2986) (v := w32 (M 929 (2986 + M 929 708) + 1)) (by omega) (by omega) (by omega) rfl
                                                             have s3 := step_book2 s2 (b := 5) (w := M 929 708) (o := 3287) (v := w32 (M 929 (3287 + M 929 708) + min (2 * price) (2 * M 929 (830 + pledge) + rI (M 929) pledge))) (by omega) (by omega) (by omega) rfl
                                                             have s4 := step_over s3 (p := pledge) (v := max (2 * price - (2 * M 929 (830 + pledge) + rI (M 929) pledge)) 0) (by (try simp (disch := omega) only [jset_k, jset_j, jset_same, true_and, and_true, cKill_o, rKill_o]); try omega) rfl
                                                             have s5 := step_left2 s4 (p := pledge) (by (try simp (disch := omega) only [jset_k, jset_j, jset_same, true_and, and_true, cKill_o, rKill_o]); try omega)
                                                             simp (disch := omega) only [jset_k (k' := 929) (j' := 708), jset_j (j' := 708)] at s5
                                                             have s6 := step_kill s5 (p := pledge) (n := M 929 1310) (n2 := M 929 1310) (by (try simp (disch := omega) only [jset_k, jset_j, jset_same, true_and, and_true, cKill_o, rKill_o]); try omega) (by (try simp (disch := omega) only [jset_k, jset_j, jset_same, true_and, and_true, cKill_o, rKill_o]); try omega)
                                                             refine inv_eq s6 ?_ ?_
                                                             · repeat (first | exact Ceq.rf | refine Ceq.lg ?_ | refine Ceq.rg ?_ | refine Ceq.lk ?_ | refine Ceq.rk ?_ | refine Ceq.lr ?_ | refine Ceq.rr ?_ | refine Ceq.give ?_ (by omega) (by omega) | refine Ceq.kill ?_ (by omega) (by omega) | refine Ceq.set ?_ (by omega) (by omega) (by first | rfl | omega | exact congrArg w32 (by omega)))
                                                             · simp (disch := first | omega | (simp (disch := omega) only [jset_k, jset_j, jset_same, true_and, and_true, cKill_o, rKill_o]; omega)) only [rGive_929, rKill_929, jset_929, cGive_hi, cKill_hi, cEnter_hi, jset_row]
                                                               repeat (first | rfl | refine aGive_cong ?_ (by omega) (by omega) | refine aKill_cong ?_ (by omega) (by omega) | refine rset_cong ?_ (by omega) (by first | rfl | omega | exact congrArg w32 (by omega)))))))
                                      · first
                                         | (exfalso; omega)
                                         | (skip
                                            refine e_iload 93 dX12_sale_91 rfl rfl ?_
                                            refine e_goto 98 dX12_sale_93 (by decide) ?_
                                            refine e_istore (lsn := [(5, _), (4, _), (3, _), (0, _), (1, _), (2, _)]) 100 dX12_sale_98 (by decide) rfl rfl ?_
                                            refine e_aload_n (i := 0) 101 dX12_sale_100 rfl rfl rfl ?_
                                            refine e_getr (j := 1) 104 fl_12_13 dX12_sale_101 at_928 rfl rfl tp_928_1 rfl ?_
                                            refine e_sipush 107 dX12_sale_104 (by decide) rfl ?_
                                            refine e_aload_n (i := 0) 108 dX12_sale_107 rfl rfl rfl ?_
                                            refine e_getr (j := 1) 111 fl_12_13 dX12_sale_108 at_928 rfl rfl tp_928_1 rfl ?_
                                            refine e_sipush 114 dX12_sale_111 (by decide) rfl ?_
                                            refine e_iald 115 dX12_sale_114 ar_929 (by decide) (by decide) rfl (fun r114 => ?_)
                                            simp (disch := omega) only [jset_k, jset_j, jset_same, true_and, and_true, hA, cKill_o, rKill_o, cEnter, cLeave_1, cLeave_2, rLeave, iOf_set] at r114 ⊢
                                            refine e_iadd 116 dX12_sale_115 rfl ?_
                                            refine e_dup2 117 dX12_sale_116 rfl rfl rfl ?_
                                            refine e_iald 118 dX12_sale_117 ar_929 (by omega) (by omega) rfl (fun r117 => ?_)
                                            simp (disch := omega) only [jset_k, jset_j, jset_same, true_and, and_true, hA, cKill_o, rKill_o, cEnter, cLeave_1, cLeave_2, rLeave, iOf_set] at r117 ⊢
                                            refine e_iload 120 dX12_sale_118 rfl rfl ?_
                                            refine e_iadd 121 dX12_sale_120 rfl ?_
                                            refine e_iastw 122 dX12_sale_121 ar_929 (by omega) (by omega) rfl ?_
                                            refine e_aload_n (i := 0) 123 dX12_sale_122 rfl rfl rfl ?_
                                            refine e_getr (j := 1) 126 fl_12_13 dX12_sale_123 at_928 rfl rfl tp_928_1 rfl ?_
                                            refine e_sipush 129 dX12_sale_126 (by decide) rfl ?_
                                            refine e_aload_n (i := 0) 130 dX12_sale_129 rfl rfl rfl ?_
                                            refine e_getr (j := 1) 133 fl_12_13 dX12_sale_130 at_928 rfl rfl tp_928_1 rfl ?_
                                            refine e_sipush 136 dX12_sale_133 (by decide) rfl ?_
                                            refine e_iald 137 dX12_sale_136 ar_929 (by decide) (by decide) rfl (fun r136 => ?_)
                                            simp (disch := omega) only [jset_k, jset_j, jset_same, true_and, and_true, hA, cKill_o, rKill_o, cEnter, cLeave_1, cLeave_2, rLeave, iOf_set] at r136 ⊢
                                            refine e_iadd 138 dX12_sale_137 rfl ?_
                                            refine e_dup2 139 dX12_sale_138 rfl rfl rfl ?_
                                            refine e_iald 140 dX12_sale_139 ar_929 (by omega) (by omega) rfl (fun r139 => ?_)
                                            simp (disch := omega) only [jset_k, jset_j, jset_same, true_and, and_true, hA, cKill_o, rKill_o, cEnter, cLeave_1, cLeave_2, rLeave, iOf_set] at r139 ⊢
                                            refine e_iconst 141 dX12_sale_140 rfl ?_
                                            refine e_iadd 142 dX12_sale_141 rfl ?_
                                            refine e_iastw 143 dX12_sale_142 ar_929 (by omega) (by omega) rfl ?_
                                            refine e_aload_n (i := 0) 144 dX12_sale_143 rfl rfl rfl ?_
                                            refine e_getr (j := 1) 147 fl_12_13 dX12_sale_144 at_928 rfl rfl tp_928_1 rfl ?_
                                            refine e_sipush 150 dX12_sale_147 (by decide) rfl ?_
                                            refine e_aload_n (i := 0) 151 dX12_sale_150 rfl rfl rfl ?_
                                            refine e_getr (j := 1) 154 fl_12_13 dX12_sale_151 at_928 rfl rfl tp_928_1 rfl ?_
                                            refine e_sipush 157 dX12_sale_154 (by decide) rfl ?_
                                            refine e_iald 158 dX12_sale_157 ar_929 (by decide) (by decide) rfl (fun r157 => ?_)
                                            simp (disch := omega) only [jset_k, jset_j, jset_same, true_and, and_true, hA, cKill_o, rKill_o, cEnter, cLeave_1, cLeave_2, rLeave, iOf_set] at r157 ⊢
                                            refine e_iadd 159 dX12_sale_158 rfl ?_
                                            refine e_dup2 160 dX12_sale_159 rfl rfl rfl ?_
                                            refine e_iald 161 dX12_sale_160 ar_929 (by omega) (by omega) rfl (fun r160 => ?_)
                                            simp (disch := omega) only [jset_k, jset_j, jset_same, true_and, and_true, hA, cKill_o, rKill_o, cEnter, cLeave_1, cLeave_2, rLeave, iOf_set] at r160 ⊢
                                            refine e_iconst 162 dX12_sale_161 rfl ?_
                                            refine e_iload_n (i := 2) 163 dX12_sale_162 rfl rfl rfl ?_
                                            refine e_imul 164 dX12_sale_163 rfl ?_
                                            refine e_iload_n (i := 3) 165 dX12_sale_164 rfl rfl rfl ?_
                                            refine e_icmp_ge 168 174 dX12_sale_165 (by omega) (by omega) (by decide) rfl (fun b165 => ?_) (fun b165 => ?_)
                                            · first
                                               | (exfalso; omega)
                                               | (skip
                                                  refine e_iload_n (i := 3) 175 dX12_sale_174 rfl rfl rfl ?_
                                                  refine e_iadd 176 dX12_sale_175 rfl ?_
                                                  refine e_iastw 177 dX12_sale_176 ar_929 (by omega) (by omega) rfl ?_
                                                  refine e_aload_n (i := 0) 178 dX12_sale_177 rfl rfl rfl ?_
                                                  refine e_getr (j := 1) 181 fl_12_13 dX12_sale_178 at_928 rfl rfl tp_928_1 rfl ?_
                                                  refine e_sipush 184 dX12_sale_181 (by decide) rfl ?_
                                                  refine e_iload_n (i := 1) 185 dX12_sale_184 rfl rfl rfl ?_
                                                  refine e_iadd 186 dX12_sale_185 rfl ?_
                                                  refine e_iconst 187 dX12_sale_186 rfl ?_
                                                  refine e_iload_n (i := 2) 188 dX12_sale_187 rfl rfl rfl ?_
                                                  refine e_imul 189 dX12_sale_188 rfl ?_
                                                  refine e_iload_n (i := 3) 190 dX12_sale_189 rfl rfl rfl ?_
                                                  refine e_icmp_le 193 201 dX12_sale_190 (by omega) (by omega) (by decide) rfl (fun b190 => ?_) (fun b190 => ?_)
                                                  · first
                                                     | (exfalso; omega)
                                                     | (skip
                                                        refine e_iconst 202 dX12_sale_201 rfl ?_
                                                        refine e_iast 203 dX12_sale_202 ar_929 (by omega) (by omega) (by decide) rfl ?_
                                                        refine e_aload_n (i := 0) 204 dX12_sale_203 rfl rfl rfl ?_
                                                        refine e_iload_n (i := 1) 205 dX12_sale_204 rfl rfl rfl ?_
                                                        refine e_iconst 206 dX12_sale_205 rfl ?_
                                                        refine e_callV 209 mt_yX12_leaves mv_yX12_leaves wd_1563 (by decide) dX12_sale_206 at_928 jc_12 rfl rfl rfl (Nat.le_of_ble_eq_true rfl) (jroom (by decide)) rfl (m_leaves (by (try simp (disch := omega) only [jset_k, jset_j, jset_same, true_and, and_true, hA, cKill_o, rKill_o, cEnter, cLeave_1, cLeave_2, rLeave, iOf_set]); omega) (by decide) (by (try simp (disch := omega) only [jset_k, jset_j, jset_same, true_and, and_true, hA, rKill_o]); omega) ?_)
                                                        dsimp only [jpush]
                                                        (try simp (disch := omega) only [jset_k, jset_j, jset_same, true_and, and_true, hA, cKill_o, rKill_o, cEnter, cLeave_1, cLeave_2, rLeave, iOf_set])
                                                        refine e_iconst 210 dX12_sale_209 rfl ?_
                                                        refine e_iload_n (i := 2) 211 dX12_sale_210 rfl rfl rfl ?_
                                                        refine e_imul 212 dX12_sale_211 rfl ?_
                                                        refine e_iload_n (i := 3) 213 dX12_sale_212 rfl rfl rfl ?_
                                                        refine e_isub 214 dX12_sale_213 rfl ?_
                                                        refine e_iret dX12_sale_214 ?_
                                                        first
                                                          | (exact ⟨by omega, hI⟩)
                                                          | (exfalso; omega)
                                                          | ((try subst hM1)
                                                             refine ⟨by first | omega | exact congrArg tkNum (by omega), ?_⟩
                                                             have s1 := step_book2 hI (b := 1) (w := M 929 708) (o := 2083) (v := w32 (M 929 (2083 + M 929 708) + min (max (2 * price - 2 * M 929 (830 + pledge)) 0) (rI (M 929) pledge))) (by omega) (by omega) (by omega) rfl
                                                             have s2 := step_book2 s1 (b := 4) (w := M 929 708) (o := 2986) (v := w32 (M 929 (2986 + M 929 708) + 1)) (by omega) (by omega) (by omega) rfl
                                                             have s3 := step_book2 s2 (b := 5) (w := M 929 708) (o := 3287) (v := w32 (M 929 (3287 + M 929 708) + min (2 * price) (2 * M 929 (830 + pledge) + rI (M 929) pledge))) (by omega) (by omega) (by omega) rfl
                                                             have s4 := step_over s3 (p := pledge) (v := max (2 * price - (2 * M 929 (830 + pledge) + rI (M 929) pledge)) 0) (by (try simp (disch := omega) only [jset_k, jset_j, jset_same, true_and, and_true, cKill_o, rKill_o]); try omega) rfl
                                                             have s5 := step_left2 s4 (p := pledge) (by (try simp (disch := omega) only [jset_k, jset_j, jset_same, true_and, and_true, cKill_o, rKill_o]); try omega)
                                                             simp (disch := omega) only [jset_k (k' := 929) (j' := 708), jset_j (j' := 708)] at s5
                                                             have s6 := step_kill s5 (p := pledge) (n := M 929 1310) (n2 := M 929 1310) (by (try simp (disch := omega) only [jset_k, jset_j, jset_same, true_and, and_true, cKill_o, rKill_o]); try omega) (by (try simp (disch := omega) only [jset_k, jset_j, jset_same, true_and, and_true, cKill_o, rKill_o]); try omega)
                                                             refine inv_eq s6 ?_ ?_
                                                             · repeat (first | exact Ceq.rf | refine Ceq.lg ?_ | refine Ceq.rg ?_ | refine Ceq.lk ?_ | refine Ceq.rk ?_ | refine Ceq.lr ?_ | refine Ceq.rr ?_ | refine Ceq.give ?_ (by omega) (by omega) | refine Ceq.kill ?_ (by omega) (by omega) | refine Ceq.set ?_ (by omega) (by omega) (by first | rfl | omega | exact congrArg w32 (by omega)))
                                                             · simp (disch := first | omega | (simp (disch := omega) only [jset_k, jset_j, jset_same, true_and, and_true, cKill_o, rKill_o]; omega)) only [rGive_929, rKill_929, jset_929, cGive_hi, cKill_hi, cEnter_hi, jset_row]
                                                               repeat (first | rfl | refine aGive_cong ?_ (by omega) (by omega) | refine aKill_cong ?_ (by omega) (by omega) | refine rset_cong ?_ (by omega) (by first | rfl | omega | exact congrArg w32 (by omega)))))
                                                  · first
                                                     | (exfalso; omega)
                                                     | (skip
                                                        refine e_iconst 194 dX12_sale_193 rfl ?_
                                                        refine e_iload_n (i := 2) 195 dX12_sale_194 rfl rfl rfl ?_
                                                        refine e_imul 196 dX12_sale_195 rfl ?_
                                                        refine e_iload_n (i := 3) 197 dX12_sale_196 rfl rfl rfl ?_
                                                        refine e_isub 198 dX12_sale_197 rfl ?_
                                                        refine e_goto 202 dX12_sale_198 (by decide) ?_
                                                        refine e_iast 203 dX12_sale_202 ar_929 (by omega) (by omega) (by omega) rfl ?_
                                                        refine e_aload_n (i := 0) 204 dX12_sale_203 rfl rfl rfl ?_
                                                        refine e_iload_n (i := 1) 205 dX12_sale_204 rfl rfl rfl ?_
                                                        refine e_iconst 206 dX12_sale_205 rfl ?_
                                                        refine e_callV 209 mt_yX12_leaves mv_yX12_leaves wd_1563 (by decide) dX12_sale_206 at_928 jc_12 rfl rfl rfl (Nat.le_of_ble_eq_true rfl) (jroom (by decide)) rfl (m_leaves (by (try simp (disch := omega) only [jset_k, jset_j, jset_same, true_and, and_true, hA, cKill_o, rKill_o, cEnter, cLeave_1, cLeave_2, rLeave, iOf_set]); omega) (by decide) (by (try simp (disch := omega) only [jset_k, jset_j, jset_same, true_and, and_true, hA, rKill_o]); omega) ?_)
                                                        dsimp only [jpush]
                                                        (try simp (disch := omega) only [jset_k, jset_j, jset_same, true_and, and_true, hA, cKill_o, rKill_o, cEnter, cLeave_1, cLeave_2, rLeave, iOf_set])
                                                        refine e_iconst 210 dX12_sale_209 rfl ?_
                                                        refine e_iload_n (i := 2) 211 dX12_sale_210 rfl rfl rfl ?_
                                                        refine e_imul 212 dX12_sale_211 rfl ?_
                                                        refine e_iload_n (i := 3) 213 dX12_sale_212 rfl rfl rfl ?_
                                                        refine e_isub 214 dX12_sale_213 rfl ?_
                                                        refine e_iret dX12_sale_214 ?_
                                                        first
                                                          | (exact ⟨by omega, hI⟩)
                                                          | (exfalso; omega)
                                                          | ((try subst hM1)
                                                             refine ⟨by first | omega | exact congrArg tkNum (by omega), ?_⟩
                                                             have s1 := step_book2 hI (b := 1) (w := M 929 708) (o := 2083) (v := w32 (M 929 (2083 + M 929 708) + min (max (2 * price - 2 * M 929 (830 + pledge)) 0) (rI (M 929) pledge))) (by omega) (by omega) (by omega) rfl
                                                             have s2 := step_book2 s1 (b := 4) (w := M 929 708) (o := 2986) (v := w32 (M 929 (2986 + M 929 708) + 1)) (by omega) (by omega) (by omega) rfl
                                                             have s3 := step_book2 s2 (b := 5) (w := M 929 708) (o := 3287) (v := w32 (M 929 (3287 + M 929 708) + min (2 * price) (2 * M 929 (830 + pledge) + rI (M 929) pledge))) (by omega) (by omega) (by omega) rfl
                                                             have s4 := step_over s3 (p := pledge) (v := max (2 * price - (2 * M 929 (830 + pledge) + rI (M 929) pledge)) 0) (by (try simp (disch := omega) only [jset_k, jset_j, jset_same, true_and, and_true, cKill_o, rKill_o]); try omega) rfl
                                                             have s5 := step_left2 s4 (p := pledge) (by (try simp (disch := omega) only [jset_k, jset_j, jset_same, true_and, and_true, cKill_o, rKill_o]); try omega)
                                                             simp (disch := omega) only [jset_k (k' := 929) (j' := 708), jset_j (j' := 708)] at s5
                                                             have s6 := step_kill s5 (p := pledge) (n := M 929 1310) (n2 := M 929 1310) (by (try simp (disch := omega) only [jset_k, jset_j, jset_same, true_and, and_true, cKill_o, rKill_o]); try omega) (by (try simp (disch := omega) only [jset_k, jset_j, jset_same, true_and, and_true, cKill_o, rKill_o]); try omega)
                                                             refine inv_eq s6 ?_ ?_
                                                             · repeat (first | exact Ceq.rf | refine Ceq.lg ?_ | refine Ceq.rg ?_ | refine Ceq.lk ?_ | refine Ceq.rk ?_ | refine Ceq.lr ?_ | refine Ceq.rr ?_ | refine Ceq.give ?_ (by omega) (by omega) | refine Ceq.kill ?_ (by omega) (by omega) | refine Ceq.set ?_ (by omega) (by omega) (by first | rfl | omega | exact congrArg w32 (by omega)))
                                                             · simp (disch := first | omega | (simp (disch := omega) only [jset_k, jset_j, jset_same, true_and, and_true, cKill_o, rKill_o]; omega)) only [rGive_929, rKill_929, jset_929, cGive_hi, cKill_hi, cEnter_hi, jset_row]
                                                               repeat (first | rfl | refine aGive_cong ?_ (by omega) (by omega) | refine aKill_cong ?_ (by omega) (by omega) | refine rset_cong ?_ (by omega) (by first | rfl | omega | exact congrArg w32 (by omega))))))
                                            · first
                                               | (exfalso; omega)
                                               | (skip
                                                  refine e_iconst 169 dX12_sale_168 rfl ?_
                                                  refine e_iload_n (i := 2) 170 dX12_sale_169 rfl rfl rfl ?_
                                                  refine e_imul 171 dX12_sale_170 rfl ?_
                                                  refine e_goto 175 dX12_sale_171 (by decide) ?_
                                                  refine e_iadd 176 dX12_sale_175 rfl ?_
                                                  refine e_iastw 177 dX12_sale_176 ar_929 (by omega) (by omega) rfl ?_
                                                  refine e_aload_n (i := 0) 178 dX12_sale_177 rfl rfl rfl ?_
                                                  refine e_getr (j := 1) 181 fl_12_13 dX12_sale_178 at_928 rfl rfl tp_928_1 rfl ?_
                                                  refine e_sipush 184 dX12_sale_181 (by decide) rfl ?_
                                                  refine e_iload_n (i := 1) 185 dX12_sale_184 rfl rfl rfl ?_
                                                  refine e_iadd 186 dX12_sale_185 rfl ?_
                                                  refine e_iconst 187 dX12_sale_186 rfl ?_
                                                  refine e_iload_n (i := 2) 188 dX12_sale_187 rfl rfl rfl ?_
                                                  refine e_imul 189 dX12_sale_188 rfl ?_
                                                  refine e_iload_n (i := 3) 190 dX12_sale_189 rfl rfl rfl ?_
                                                  refine e_icmp_le 193 201 dX12_sale_190 (by omega) (by omega) (by decide) rfl (fun b190 => ?_) (fun b190 => ?_)
                                                  · first
                                                     | (exfalso; omega)
                                                     | (skip
                                                        refine e_iconst 202 dX12_sale_201 rfl ?_
                                                        refine e_iast 203 dX12_sale_202 ar_929 (by omega) (by omega) (by decide) rfl ?_
                                                        refine e_aload_n (i := 0) 204 dX12_sale_203 rfl rfl rfl ?_
                                                        refine e_iload_n (i := 1) 205 dX12_sale_204 rfl rfl rfl ?_
                                                        refine e_iconst 206 dX12_sale_205 rfl ?_
                                                        refine e_callV 209 mt_yX12_leaves mv_yX12_leaves wd_1563 (by decide) dX12_sale_206 at_928 jc_12 rfl rfl rfl (Nat.le_of_ble_eq_true rfl) (jroom (by decide)) rfl (m_leaves (by (try simp (disch := omega) only [jset_k, jset_j, jset_same, true_and, and_true, hA, cKill_o, rKill_o, cEnter, cLeave_1, cLeave_2, rLeave, iOf_set]); omega) (by decide) (by (try simp (disch := omega) only [jset_k, jset_j, jset_same, true_and, and_true, hA, rKill_o]); omega) ?_)
                                                        dsimp only [jpush]
                                                        (try simp (disch := omega) only [jset_k, jset_j, jset_same, true_and, and_true, hA, cKill_o, rKill_o, cEnter, cLeave_1, cLeave_2, rLeave, iOf_set])
                                                        refine e_iconst 210 dX12_sale_209 rfl ?_
                                                        refine e_iload_n (i := 2) 211 dX12_sale_210 rfl rfl rfl ?_
                                                        refine e_imul 212 dX12_sale_211 rfl ?_
                                                        refine e_iload_n (i := 3) 213 dX12_sale_212 rfl rfl rfl ?_
                                                        refine e_isub 214 dX12_sale_213 rfl ?_
                                                        refine e_iret dX12_sale_214 ?_
                                                        first
                                                          | (exact ⟨by omega, hI⟩)
                                                          | (exfalso; omega)
                                                          | ((try subst hM1)
                                                             refine ⟨by first | omega | exact congrArg tkNum (by omega), ?_⟩
                                                             have s1 := step_book2 hI (b := 1) (w := M 929 708) (o := 2083) (v := w32 (M 929 (2083 + M 929 708) + min (max (2 * price - 2 * M 929 (830 + pledge)) 0) (rI (M 929) pledge))) (by omega) (by omega) (by omega) rfl
                                                             have s2 := step_book2 s1 (b := 4) (w := M 929 708) (o := 2986) (v := w32 (M 929 (2986 + M 929 708) + 1)) (by omega) (by omega) (by omega) rfl
                                                             have s3 := step_book2 s2 (b := 5) (w := M 929 708) (o := 3287) (v := w32 (M 929 (3287 + M 929 708) + min (2 * price) (2 * M 929 (830 + pledge) + rI (M 929) pledge))) (by omega) (by omega) (by omega) rfl
                                                             have s4 := step_over s3 (p := pledge) (v := max (2 * price - (2 * M 929 (830 + pledge) + rI (M 929) pledge)) 0) (by (try simp (disch := omega) only [jset_k, jset_j, jset_same, true_and, and_true, cKill_o, rKill_o]); try omega) rfl
                                                             have s5 := step_left2 s4 (p := pledge) (by (try simp (disch := omega) only [jset_k, jset_j, jset_same, true_and, and_true, cKill_o, rKill_o]); try omega)
                                                             simp (disch := omega) only [jset_k (k' := 929) (j' := 708), jset_j (j' := 708)] at s5
                                                             have s6 := step_kill s5 (p := pledge) (n := M 929 1310) (n2 := M 929 1310) (by (try simp (disch := omega) only [jset_k, jset_j, jset_same, true_and, and_true, cKill_o, rKill_o]); try omega) (by (try simp (disch := omega) only [jset_k, jset_j, jset_same, true_and, and_true, cKill_o, rKill_o]); try omega)
                                                             refine inv_eq s6 ?_ ?_
                                                             · repeat (first | exact Ceq.rf | refine Ceq.lg ?_ | refine Ceq.rg ?_ | refine Ceq.lk ?_ | refine Ceq.rk ?_ | refine Ceq.lr ?_ | refine Ceq.rr ?_ | refine Ceq.give ?_ (by omega) (by omega) | refine Ceq.kill ?_ (by omega) (by omega) | refine Ceq.set ?_ (by omega) (by omega) (by first | rfl | omega | exact congrArg w32 (by omega)))
                                                             · simp (disch := first | omega | (simp (disch := omega) only [jset_k, jset_j, jset_same, true_and, and_true, cKill_o, rKill_o]; omega)) only [rGive_929, rKill_929, jset_929, cGive_hi, cKill_hi, cEnter_hi, jset_row]
                                                               repeat (first | rfl | refine aGive_cong ?_ (by omega) (by omega) | refine aKill_cong ?_ (by omega) (by omega) | refine rset_cong ?_ (by omega) (by first | rfl | omega | exact congrArg w32 (by omega)))))
                                                  · first
                                                     | (exfalso; omega)
                                                     | (skip
                                                        refine e_iconst 194 dX12_sale_193 rfl ?_
                                                        refine e_iload_n (i := 2) 195 dX12_sale_194 rfl rfl rfl ?_
                                                        refine e_imul 196 dX12_sale_195 rfl ?_
                                                        refine e_iload_n (i := 3) 197 dX12_sale_196 rfl rfl rfl ?_
                                                        refine e_isub 198 dX12_sale_197 rfl ?_
                                                        refine e_goto 202 dX12_sale_198 (by decide) ?_
                                                        refine e_iast 203 dX12_sale_202 ar_929 (by omega) (by omega) (by omega) rfl ?_
                                                        refine e_aload_n (i := 0) 204 dX12_sale_203 rfl rfl rfl ?_
                                                        refine e_iload_n (i := 1) 205 dX12_sale_204 rfl rfl rfl ?_
                                                        refine e_iconst 206 dX12_sale_205 rfl ?_
                                                        refine e_callV 209 mt_yX12_leaves mv_yX12_leaves wd_1563 (by decide) dX12_sale_206 at_928 jc_12 rfl rfl rfl (Nat.le_of_ble_eq_true rfl) (jroom (by decide)) rfl (m_leaves (by (try simp (disch := omega) only [jset_k, jset_j, jset_same, true_and, and_true, hA, cKill_o, rKill_o, cEnter, cLeave_1, cLeave_2, rLeave, iOf_set]); omega) (by decide) (by (try simp (disch := omega) only [jset_k, jset_j, jset_same, true_and, and_true, hA, rKill_o]); omega) ?_)
                                                        dsimp only [jpush]
                                                        (try simp (disch := omega) only [jset_k, jset_j, jset_same, true_and, and_true, hA, cKill_o, rKill_o, cEnter, cLeave_1, cLeave_2, rLeave, iOf_set])
                                                        refine e_iconst 210 dX12_sale_209 rfl ?_
                                                        refine e_iload_n (i := 2) 211 dX12_sale_210 rfl rfl rfl ?_
                                                        refine e_imul 212 dX12_sale_211 rfl ?_
                                                        refine e_iload_n (i := 3) 213 dX12_sale_212 rfl rfl rfl ?_
                                                        refine e_isub 214 dX12_sale_213 rfl ?_
                                                        refine e_iret dX12_sale_214 ?_
                                                        first
                                                          | (exact ⟨by omega, hI⟩)
                                                          | (exfalso; omega)
                                                          | ((try subst hM1)
                                                             refine ⟨by first | omega | exact congrArg tkNum (by omega), ?_⟩
                                                             have s1 := step_book2 hI (b := 1) (w := M 929 708) (o := 2083) (v := w32 (M 929 (2083 + M 929 708) + min (max (2 * price - 2 * M 929 (830 + pledge)) 0) (rI (M 929) pledge))) (by omega) (by omega) (by omega) rfl
                                                             have s2 := step_book2 s1 (b := 4) (w := M 929 708) (o := 2986) (v := w32 (M 929 (2986 + M 929 708) + 1)) (by omega) (by omega) (by omega) rfl
                                                             have s3 := step_book2 s2 (b := 5) (w := M 929 708) (o := 3287) (v := w32 (M 929 (3287 + M 929 708) + min (2 * price) (2 * M 929 (830 + pledge) + rI (M 929) pledge))) (by omega) (by omega) (by omega) rfl
                                                             have s4 := step_over s3 (p := pledge) (v := max (2 * price - (2 * M 929 (830 + pledge) + rI (M 929) pledge)) 0) (by (try simp (disch := omega) only [jset_k, jset_j, jset_same, true_and, and_true, cKill_o, rKill_o]); try omega) rfl
                                                             have s5 := step_left2 s4 (p := pledge) (by (try simp (disch := omega) only [jset_k, jset_j, jset_same, true_and, and_true, cKill_o, rKill_o]); try omega)
                                                             simp (disch := omega) only [jset_k (k' := 929) (j' := 708), jset_j (j' := 708)] at s5
                                                             have s6 := step_kill s5 (p := pledge) (n := M 929 1310) (n2 := M 929 1310) (by (try simp (disch := omega) only [jset_k, jset_j, jset_same, true_and, and_true, cKill_o, rKill_o]); try omega) (by (try simp (disch := omega) only [jset_k, jset_j, jset_same, true_and, and_true, cKill_o, rKill_o]); try omega)
                                                             refine inv_eq s6 ?_ ?_
                                                             · repeat (first | exact Ceq.rf | refine Ceq.lg ?_ | refine Ceq.rg ?_ | refine Ceq.lk ?_ | refine Ceq.rk ?_ | refine Ceq.lr ?_ | refine Ceq.rr ?_ | refine Ceq.give ?_ (by omega) (by omega) | refine Ceq.kill ?_ (by omega) (by omega) | refine Ceq.set ?_ (by omega) (by omega) (by first | rfl | omega | exact congrArg w32 (by omega)))
                                                             · simp (disch := first | omega | (simp (disch := omega) only [jset_k, jset_j, jset_same, true_and, and_true, cKill_o, rKill_o]; omega)) only [rGive_929, rKill_929, jset_929, cGive_hi, cKill_hi, cEnter_hi, jset_row]
                                                               repeat (first | rfl | refine aGive_cong ?_ (by omega) (by omega) | refine aKill_cong ?_ (by omega) (by omega) | refine rset_cong ?_ (by omega) (by first | rfl | omega | exact congrArg w32 (by omega))))))))
                                · first
                                   | (exfalso; omega)
                                   | (skip
                                      refine e_iconst 81 dX12_sale_80 rfl ?_
                                      refine e_goto 98 dX12_sale_81 (by decide) ?_
                                      refine e_istore (lsn := [(5, _), (4, _), (3, _), (0, _), (1, _), (2, _)]) 100 dX12_sale_98 (by decide) rfl rfl ?_
                                      refine e_aload_n (i := 0) 101 dX12_sale_100 rfl rfl rfl ?_
                                      refine e_getr (j := 1) 104 fl_12_13 dX12_sale_101 at_928 rfl rfl tp_928_1 rfl ?_
                                      refine e_sipush 107 dX12_sale_104 (by decide) rfl ?_
                                      refine e_aload_n (i := 0) 108 dX12_sale_107 rfl rfl rfl ?_
                                      refine e_getr (j := 1) 111 fl_12_13 dX12_sale_108 at_928 rfl rfl tp_928_1 rfl ?_
                                      refine e_sipush 114 dX12_sale_111 (by decide) rfl ?_
                                      refine e_iald 115 dX12_sale_114 ar_929 (by decide) (by decide) rfl (fun r114 => ?_)
                                      simp (disch := omega) only [jset_k, jset_j, jset_same, true_and, and_true, hA, cKill_o, rKill_o, cEnter, cLeave_1, cLeave_2, rLeave, iOf_set] at r114 ⊢
                                      refine e_iadd 116 dX12_sale_115 rfl ?_
                                      refine e_dup2 117 dX12_sale_116 rfl rfl rfl ?_
                                      refine e_iald 118 dX12_sale_117 ar_929 (by omega) (by omega) rfl (fun r117 => ?_)
                                      simp (disch := omega) only [jset_k, jset_j, jset_same, true_and, and_true, hA, cKill_o, rKill_o, cEnter, cLeave_1, cLeave_2, rLeave, iOf_set] at r117 ⊢
                                      refine e_iload 120 dX12_sale_118 rfl rfl ?_
                                      refine e_iadd 121 dX12_sale_120 rfl ?_
                                      refine e_iastw 122 dX12_sale_121 ar_929 (by omega) (by omega) rfl ?_
                                      refine e_aload_n (i := 0) 123 dX12_sale_122 rfl rfl rfl ?_
                                      refine e_getr (j := 1) 126 fl_12_13 dX12_sale_123 at_928 rfl rfl tp_928_1 rfl ?_
                                      refine e_sipush 129 dX12_sale_126 (by decide) rfl ?_
                                      refine e_aload_n (i := 0) 130 dX12_sale_129 rfl rfl rfl ?_
                                      refine e_getr (j := 1) 133 fl_12_13 dX12_sale_130 at_928 rfl rfl tp_928_1 rfl ?_
                                      refine e_sipush 136 dX12_sale_133 (by decide) rfl ?_
                                      refine e_iald 137 dX12_sale_136 ar_929 (by decide) (by decide) rfl (fun r136 => ?_)
                                      simp (disch := omega) only [jset_k, jset_j, jset_same, true_and, and_true, hA, cKill_o, rKill_o, cEnter, cLeave_1, cLeave_2, rLeave, iOf_set] at r136 ⊢
                                      refine e_iadd 138 dX12_sale_137 rfl ?_
                                      refine e_dup2 139 dX12_sale_138 rfl rfl rfl ?_
                                      refine e_iald 140 dX12_sale_139 ar_929 (by omega) (by omega) rfl (fun r139 => ?_)
                                      simp (disch := omega) only [jset_k, jset_j, jset_same, true_and, and_true, hA, cKill_o, rKill_o, cEnter, cLeave_1, cLeave_2, rLeave, iOf_set] at r139 ⊢
                                      refine e_iconst 141 dX12_sale_140 rfl ?_
                                      refine e_iadd 142 dX12_sale_141 rfl ?_
                                      refine e_iastw 143 dX12_sale_142 ar_929 (by omega) (by omega) rfl ?_
                                      refine e_aload_n (i := 0) 144 dX12_sale_143 rfl rfl rfl ?_
                                      refine e_getr (j := 1) 147 fl_12_13 dX12_sale_144 at_928 rfl rfl tp_928_1 rfl ?_
                                      refine e_sipush 150 dX12_sale_147 (by decide) rfl ?_
                                      refine e_aload_n (i := 0) 151 dX12_sale_150 rfl rfl rfl ?_
                                      refine e_getr (j := 1) 154 fl_12_13 dX12_sale_151 at_928 rfl rfl tp_928_1 rfl ?_
                                      refine e_sipush 157 dX12_sale_154 (by decide) rfl ?_
                                      refine e_iald 158 dX12_sale_157 ar_929 (by decide) (by decide) rfl (fun r157 => ?_)
                                      simp (disch := omega) only [jset_k, jset_j, jset_same, true_and, and_true, hA, cKill_o, rKill_o, cEnter, cLeave_1, cLeave_2, rLeave, iOf_set] at r157 ⊢
                                      refine e_iadd 159 dX12_sale_158 rfl ?_
                                      refine e_dup2 160 dX12_sale_159 rfl rfl rfl ?_
                                      refine e_iald 161 dX12_sale_160 ar_929 (by omega) (by omega) rfl (fun r160 => ?_)
                                      simp (disch := omega) only [jset_k, jset_j, jset_same, true_and, and_true, hA, cKill_o, rKill_o, cEnter, cLeave_1, cLeave_2, rLeave, iOf_set] at r160 ⊢
                                      refine e_iconst 162 dX12_sale_161 rfl ?_
                                      refine e_iload_n (i := 2) 163 dX12_sale_162 rfl rfl rfl ?_
                                      refine e_imul 164 dX12_sale_163 rfl ?_
                                      refine e_iload_n (i := 3) 165 dX12_sale_164 rfl rfl rfl ?_
                                      refine e_icmp_ge 168 174 dX12_sale_165 (by omega) (by omega) (by decide) rfl (fun b165 => ?_) (fun b165 => ?_)
                                      · first
                                         | (exfalso; omega)
                                         | (skip
                                            refine e_iload_n (i := 3) 175 dX12_sale_174 rfl rfl rfl ?_
                                            refine e_iadd 176 dX12_sale_175 rfl ?_
                                            refine e_iastw 177 dX12_sale_176 ar_929 (by omega) (by omega) rfl ?_
                                            refine e_aload_n (i := 0) 178 dX12_sale_177 rfl rfl rfl ?_
                                            refine e_getr (j := 1) 181 fl_12_13 dX12_sale_178 at_928 rfl rfl tp_928_1 rfl ?_
                                            refine e_sipush 184 dX12_sale_181 (by decide) rfl ?_
                                            refine e_iload_n (i := 1) 185 dX12_sale_184 rfl rfl rfl ?_
                                            refine e_iadd 186 dX12_sale_185 rfl ?_
                                            refine e_iconst 187 dX12_sale_186 rfl ?_
                                            refine e_iload_n (i := 2) 188 dX12_sale_187 rfl rfl rfl ?_
                                            refine e_imul 189 dX12_sale_188 rfl ?_
                                            refine e_iload_n (i := 3) 190 dX12_sale_189 rfl rfl rfl ?_
                                            refine e_icmp_le 193 201 dX12_sale_190 (by omega) (by omega) (by decide) rfl (fun b190 => ?_) (fun b190 => ?_)
                                            · first
                                               | (exfalso; omega)
                                               | (skip
                                                  refine e_iconst 202 dX12_sale_201 rfl ?_
                                                  refine e_iast 203 dX12_sale_202 ar_929 (by omega) (by omega) (by decide) rfl ?_
                                                  refine e_aload_n (i := 0) 204 dX12_sale_203 rfl rfl rfl ?_
                                                  refine e_iload_n (i := 1) 205 dX12_sale_204 rfl rfl rfl ?_
                                                  refine e_iconst 206 dX12_sale_205 rfl ?_
                                                  refine e_callV 209 mt_yX12_leaves mv_yX12_leaves wd_1563 (by decide) dX12_sale_206 at_928 jc_12 rfl rfl rfl (Nat.le_of_ble_eq_true rfl) (jroom (by decide)) rfl (m_leaves (by (try simp (disch := omega) only [jset_k, jset_j, jset_same, true_and, and_true, hA, cKill_o, rKill_o, cEnter, cLeave_1, cLeave_2, rLeave, iOf_set]); omega) (by decide) (by (try simp (disch := omega) only [jset_k, jset_j, jset_same, true_and, and_true, hA, rKill_o]); omega) ?_)
                                                  dsimp only [jpush]
                                                  (try simp (disch := omega) only [jset_k, jset_j, jset_same, true_and, and_true, hA, cKill_o, rKill_o, cEnter, cLeave_1, cLeave_2, rLeave, iOf_set])
                                                  refine e_iconst 210 dX12_sale_209 rfl ?_
                                                  refine e_iload_n (i := 2) 211 dX12_sale_210 rfl rfl rfl ?_
                                                  refine e_imul 212 dX12_sale_211 rfl ?_
                                                  refine e_iload_n (i := 3) 213 dX12_sale_212 rfl rfl rfl ?_
                                                  refine e_isub 214 dX12_sale_213 rfl ?_
                                                  refine e_iret dX12_sale_214 ?_
                                                  first
                                                    | (exact ⟨by omega, hI⟩)
                                                    | (exfalso; omega)
                                                    | ((try subst hM1)
                                                       refine ⟨by first | omega | exact congrArg tkNum (by omega), ?_⟩
                                                       have s1 := step_book2 hI (b := 1) (w := M 929 708) (o := 2083) (v := w32 (M 929 (2083 + M 929 708) + min (max (2 * price - 2 * M 929 (830 + pledge)) 0) (rI (M 929) pledge))) (by omega) (by omega) (by omega) rfl
                                                       have s2 := step_book2 s1 (b := 4) (w := M 929 708) (o := 2986) (v := w32 (M 929 (2986 + M 929 708) + 1)) (by omega) (by omega) (by omega) rfl
                                                       have s3 := step_book2 s2 (b := 5) (w := M 929 708) (o := 3287) (v := w32 (M 929 (3287 + M 929 708) + min (2 * price) (2 * M 929 (830 + pledge) + rI (M 929) pledge))) (by omega) (by omega) (by omega) rfl
                                                       have s4 := step_over s3 (p := pledge) (v := max (2 * price - (2 * M 929 (830 + pledge) + rI (M 929) pledge)) 0) (by (try simp (disch := omega) only [jset_k, jset_j, jset_same, true_and, and_true, cKill_o, rKill_o]); try omega) rfl
                                                       have s5 := step_left2 s4 (p := pledge) (by (try simp (disch := omega) only [jset_k, jset_j, jset_same, true_and, and_true, cKill_o, rKill_o]); try omega)
                                                       simp (disch := omega) only [jset_k (k' := 929) (j' := 708), jset_j (j' := 708)] at s5
                                                       have s6 := step_kill s5 (p := pledge) (n := M 929 1310) (n2 := M 929 1310) (by (try simp (disch := omega) only [jset_k, jset_j, jset_same, true_and, and_true, cKill_o, rKill_o]); try omega) (by (try simp (disch := omega) only [jset_k, jset_j, jset_same, true_and, and_true, cKill_o, rKill_o]); try omega)
                                                       refine inv_eq s6 ?_ ?_
                                                       · repeat (first | exact Ceq.rf | refine Ceq.lg ?_ | refine Ceq.rg ?_ | refine Ceq.lk ?_ | refine Ceq.rk ?_ | refine Ceq.lr ?_ | refine Ceq.rr ?_ | refine Ceq.give ?_ (by omega) (by omega) | refine Ceq.kill ?_ (by omega) (by omega) | refine Ceq.set ?_ (by omega) (by omega) (by first | rfl | omega | exact congrArg w32 (by omega)))
                                                       · simp (disch := first | omega | (simp (disch := omega) only [jset_k, jset_j, jset_same, true_and, and_true, cKill_o, rKill_o]; omega)) only [rGive_929, rKill_929, jset_929, cGive_hi, cKill_hi, cEnter_hi, jset_row]
                                                         repeat (first | rfl | refine aGive_cong ?_ (by omega) (by omega) | refine aKill_cong ?_ (by omega) (by omega) | refine rset_cong ?_ (by omega) (by first | rfl | omega | exact congrArg w32 (by omega)))))
                                            · first
                                               | (exfalso; omega)
                                               | (skip
                                                  refine e_iconst 194 dX12_sale_193 rfl ?_
                                                  refine e_iload_n (i := 2) 195 dX12_sale_194 rfl rfl rfl ?_
                                                  refine e_imul 196 dX12_sale_195 rfl ?_
                                                  refine e_iload_n (i := 3) 197 dX12_sale_196 rfl rfl rfl ?_
                                                  refine e_isub 198 dX12_sale_197 rfl ?_
                                                  refine e_goto 202 dX12_sale_198 (by decide) ?_
                                                  refine e_iast 203 dX12_sale_202 ar_929 (by omega) (by omega) (by omega) rfl ?_
                                                  refine e_aload_n (i := 0) 204 dX12_sale_203 rfl rfl rfl ?_
                                                  refine e_iload_n (i := 1) 205 dX12_sale_204 rfl rfl rfl ?_
                                                  refine e_iconst 206 dX12_sale_205 rfl ?_
                                                  refine e_callV 209 mt_yX12_leaves mv_yX12_leaves wd_1563 (by decide) dX12_sale_206 at_928 jc_12 rfl rfl rfl (Nat.le_of_ble_eq_true rfl) (jroom (by decide)) rfl (m_leaves (by (try simp (disch := omega) only [jset_k, jset_j, jset_same, true_and, and_true, hA, cKill_o, rKill_o, cEnter, cLeave_1, cLeave_2, rLeave, iOf_set]); omega) (by decide) (by (try simp (disch := omega) only [jset_k, jset_j, jset_same, true_and, and_true, hA, rKill_o]); omega) ?_)
                                                  dsimp only [jpush]
                                                  (try simp (disch := omega) only [jset_k, jset_j, jset_same, true_and, and_true, hA, cKill_o, rKill_o, cEnter, cLeave_1, cLeave_2, rLeave, iOf_set])
                                                  refine e_iconst 210 dX12_sale_209 rfl ?_
                                                  refine e_iload_n (i := 2) 211 dX12_sale_210 rfl rfl rfl ?_
                                                  refine e_imul 212 dX12_sale_211 rfl ?_
                                                  refine e_iload_n (i := 3) 213 dX12_sale_212 rfl rfl rfl ?_
                                                  refine e_isub 214 dX12_sale_213 rfl ?_
                                                  refine e_iret dX12_sale_214 ?_
                                                  first
                                                    | (exact ⟨by omega, hI⟩)
                                                    | (exfalso; omega)
                                                    | ((try subst hM1)
                                                       refine ⟨by first | omega | exact congrArg tkNum (by omega), ?_⟩
                                                       have s1 := step_book2 hI (b := 1) (w := M 929 708) (o := 2083) (v := w32 (M 929 (2083 + M 929 708) + min (max (2 * price - 2 * M 929 (830 + pledge)) 0) (rI (M 929) pledge))) (by omega) (by omega) (by omega) rfl
                                                       have s2 := step_book2 s1 (b := 4) (w := M 929 708) (o := 2986) (v := w32 (M 929 (2986 + M 929 708) + 1)) (by omega) (by omega) (by omega) rfl
                                                       have s3 := step_book2 s2 (b := 5) (w := M 929 708) (o := 3287) (v := w32 (M 929 (3287 + M 929 708) + min (2 * price) (2 * M 929 (830 + pledge) + rI (M 929) pledge))) (by omega) (by omega) (by omega) rfl
                                                       have s4 := step_over s3 (p := pledge) (v := max (2 * price - (2 * M 929 (830 + pledge) + rI (M 929) pledge)) 0) (by (try simp (disch := omega) only [jset_k, jset_j, jset_same, true_and, and_true, cKill_o, rKill_o]); try omega) rfl
                                                       have s5 := step_left2 s4 (p := pledge) (by (try simp (disch := omega) only [jset_k, jset_j, jset_same, true_and, and_true, cKill_o, rKill_o]); try omega)
                                                       simp (disch := omega) only [jset_k (k' := 929) (j' := 708), jset_j (j' := 708)] at s5
                                                       have s6 := step_kill s5 (p := pledge) (n := M 929 1310) (n2 := M 929 1310) (by (try simp (disch := omega) only [jset_k, jset_j, jset_same, true_and, and_true, cKill_o, rKill_o]); try omega) (by (try simp (disch := omega) only [jset_k, jset_j, jset_same, true_and, and_true, cKill_o, rKill_o]); try omega)
                                                       refine inv_eq s6 ?_ ?_
                                                       · repeat (first | exact Ceq.rf | refine Ceq.lg ?_ | refine Ceq.rg ?_ | refine Ceq.lk ?_ | refine Ceq.rk ?_ | refine Ceq.lr ?_ | refine Ceq.rr ?_ | refine Ceq.give ?_ (by omega) (by omega) | refine Ceq.kill ?_ (by omega) (by omega) | refine Ceq.set ?_ (by omega) (by omega) (by first | rfl | omega | exact congrArg w32 (by omega)))
                                                       · simp (disch := first | omega | (simp (disch := omega) only [jset_k, jset_j, jset_same, true_and, and_true, cKill_o, rKill_o]; omega)) only [rGive_929, rKill_929, jset_929, cGive_hi, cKill_hi, cEnter_hi, jset_row]
                                                         repeat (first | rfl | refine aGive_cong ?_ (by omega) (by omega) | refine aKill_cong ?_ (by omega) (by omega) | refine rset_cong ?_ (by omega) (by first | rfl | omega | exact congrArg w32 (by omega))))))
                                      · first
                                         | (exfalso; omega)
                                         | (skip
                                            refine e_iconst 169 dX12_sale_168 rfl ?_
                                            refine e_iload_n (i := 2) 170 dX12_sale_169 rfl rfl rfl ?_
                                            refine e_imul 171 dX12_sale_170 rfl ?_
                                            refine e_goto 175 dX12_sale_171 (by decide) ?_
                                            refine e_iadd 176 dX12_sale_175 rfl ?_
                                            refine e_iastw 177 dX12_sale_176 ar_929 (by omega) (by omega) rfl ?_
                                            refine e_aload_n (i := 0) 178 dX12_sale_177 rfl rfl rfl ?_
                                            refine e_getr (j := 1) 181 fl_12_13 dX12_sale_178 at_928 rfl rfl tp_928_1 rfl ?_
                                            refine e_sipush 184 dX12_sale_181 (by decide) rfl ?_
                                            refine e_iload_n (i := 1) 185 dX12_sale_184 rfl rfl rfl ?_
                                            refine e_iadd 186 dX12_sale_185 rfl ?_
                                            refine e_iconst 187 dX12_sale_186 rfl ?_
                                            refine e_iload_n (i := 2) 188 dX12_sale_187 rfl rfl rfl ?_
                                            refine e_imul 189 dX12_sale_188 rfl ?_
                                            refine e_iload_n (i := 3) 190 dX12_sale_189 rfl rfl rfl ?_
                                            refine e_icmp_le 193 201 dX12_sale_190 (by omega) (by omega) (by decide) rfl (fun b190 => ?_) (fun b190 => ?_)
                                            · first
                                               | (exfalso; omega)
                                               | (skip
                                                  refine e_iconst 202 dX12_sale_201 rfl ?_
                                                  refine e_iast 203 dX12_sale_202 ar_929 (by omega) (by omega) (by decide) rfl ?_
                                                  refine e_aload_n (i := 0) 204 dX12_sale_203 rfl rfl rfl ?_
                                                  refine e_iload_n (i := 1) 205 dX12_sale_204 rfl rfl rfl ?_
                                                  refine e_iconst 206 dX12_sale_205 rfl ?_
                                                  refine e_callV 209 mt_yX12_leaves mv_yX12_leaves wd_1563 (by decide) dX12_sale_206 at_928 jc_12 rfl rfl rfl (Nat.le_of_ble_eq_true rfl) (jroom (by decide)) rfl (m_leaves (by (try simp (disch := omega) only [jset_k, jset_j, jset_same, true_and, and_true, hA, cKill_o, rKill_o, cEnter, cLeave_1, cLeave_2, rLeave, iOf_set]); omega) (by decide) (by (try simp (disch := omega) only [jset_k, jset_j, jset_same, true_and, and_true, hA, rKill_o]); omega) ?_)
                                                  dsimp only [jpush]
                                                  (try simp (disch := omega) only [jset_k, jset_j, jset_same, true_and, and_true, hA, cKill_o, rKill_o, cEnter, cLeave_1, cLeave_2, rLeave, iOf_set])
                                                  refine e_iconst 210 dX12_sale_209 rfl ?_
                                                  refine e_iload_n (i := 2) 211 dX12_sale_210 rfl rfl rfl ?_
                                                  refine e_imul 212 dX12_sale_211 rfl ?_
                                                  refine e_iload_n (i := 3) 213 dX12_sale_212 rfl rfl rfl ?_
                                                  refine e_isub 214 dX12_sale_213 rfl ?_
                                                  refine e_iret dX12_sale_214 ?_
                                                  first
                                                    | (exact ⟨by omega, hI⟩)
                                                    | (exfalso; omega)
                                                    | ((try subst hM1)
                                                       refine ⟨by first | omega | exact congrArg tkNum (by omega), ?_⟩
                                                       have s1 := step_book2 hI (b := 1) (w := M 929 708) (o := 2083) (v := w32 (M 929 (2083 + M 929 708) + min (max (2 * price - 2 * M 929 (830 + pledge)) 0) (rI (M 929) pledge))) (by omega) (by omega) (by omega) rfl
                                                       have s2 := step_book2 s1 (b := 4) (w := M 929 708) (o := 2986) (v := w32 (M 929 (2986 + M 929 708) + 1)) (by omega) (by omega) (by omega) rfl
                                                       have s3 := step_book2 s2 (b := 5) (w := M 929 708) (o := 3287) (v := w32 (M 929 (3287 + M 929 708) + min (2 * price) (2 * M 929 (830 + pledge) + rI (M 929) pledge))) (by omega) (by omega) (by omega) rfl
                                                       have s4 := step_over s3 (p := pledge) (v := max (2 * price - (2 * M 929 (830 + pledge) + rI (M 929) pledge)) 0) (by (try simp (disch := omega) only [jset_k, jset_j, jset_same, true_and, and_true, cKill_o, rKill_o]); try omega) rfl
                                                       have s5 := step_left2 s4 (p := pledge) (by (try simp (disch := omega) only [jset_k, jset_j, jset_same, true_and, and_true, cKill_o, rKill_o]); try omega)
                                                       simp (disch := omega) only [jset_k (k' := 929) (j' := 708), jset_j (j' := 708)] at s5
                                                       have s6 := step_kill s5 (p := pledge) (n := M 929 1310) (n2 := M 929 1310) (by (try simp (disch := omega) only [jset_k, jset_j, jset_same, true_and, and_true, cKill_o, rKill_o]); try omega) (by (try simp (disch := omega) only [jset_k, jset_j, jset_same, true_and, and_true, cKill_o, rKill_o]); try omega)
                                                       refine inv_eq s6 ?_ ?_
                                                       · repeat (first | exact Ceq.rf | refine Ceq.lg ?_ | refine Ceq.rg ?_ | refine Ceq.lk ?_ | refine Ceq.rk ?_ | refine Ceq.lr ?_ | refine Ceq.rr ?_ | refine Ceq.give ?_ (by omega) (by omega) | refine Ceq.kill ?_ (by omega) (by omega) | refine Ceq.set ?_ (by omega) (by omega) (by first | rfl | omega | exact congrArg w32 (by omega)))
                                                       · simp (disch := first | omega | (simp (disch := omega) only [jset_k, jset_j, jset_same, true_and, and_true, cKill_o, rKill_o]; omega)) only [rGive_929, rKill_929, jset_929, cGive_hi, cKill_hi, cEnter_hi, jset_row]
                                                         repeat (first | rfl | refine aGive_cong ?_ (by omega) (by omega) | refine aKill_cong ?_ (by omega) (by omega) | refine rset_cong ?_ (by omega) (by first | rfl | omega | exact congrArg w32 (by omega)))))
                                            · first
                                               | (exfalso; omega)
                                               | (skip
                                                  refine e_iconst 194 dX12_sale_193 rfl ?_
                                                  refine e_iload_n (i := 2) 195 dX12_sale_194 rfl rfl rfl ?_
                                                  refine e_imul 196 dX12_sale_195 rfl ?_
                                                  refine e_iload_n (i := 3) 197 dX12_sale_196 rfl rfl rfl ?_
                                                  refine e_isub 198 dX12_sale_197 rfl ?_
                                                  refine e_goto 202 dX12_sale_198 (by decide) ?_
                                                  refine e_iast 203 dX12_sale_202 ar_929 (by omega) (by omega) (by omega) rfl ?_
                                                  refine e_aload_n (i := 0) 204 dX12_sale_203 rfl rfl rfl ?_
                                                  refine e_iload_n (i := 1) 205 dX12_sale_204 rfl rfl rfl ?_
                                                  refine e_iconst 206 dX12_sale_205 rfl ?_
                                                  refine e_callV 209 mt_yX12_leaves mv_yX12_leaves wd_1563 (by decide) dX12_sale_206 at_928 jc_12 rfl rfl rfl (Nat.le_of_ble_eq_true rfl) (jroom (by decide)) rfl (m_leaves (by (try simp (disch := omega) only [jset_k, jset_j, jset_same, true_and, and_true, hA, cKill_o, rKill_o, cEnter, cLeave_1, cLeave_2, rLeave, iOf_set]); omega) (by decide) (by (try simp (disch := omega) only [jset_k, jset_j, jset_same, true_and, and_true, hA, rKill_o]); omega) ?_)
                                                  dsimp only [jpush]
                                                  (try simp (disch := omega) only [jset_k, jset_j, jset_same, true_and, and_true, hA, cKill_o, rKill_o, cEnter, cLeave_1, cLeave_2, rLeave, iOf_set])
                                                  refine e_iconst 210 dX12_sale_209 rfl ?_
                                                  refine e_iload_n (i := 2) 211 dX12_sale_210 rfl rfl rfl ?_
                                                  refine e_imul 212 dX12_sale_211 rfl ?_
                                                  refine e_iload_n (i := 3) 213 dX12_sale_212 rfl rfl rfl ?_
                                                  refine e_isub 214 dX12_sale_213 rfl ?_
                                                  refine e_iret dX12_sale_214 ?_
                                                  first
                                                    | (exact ⟨by omega, hI⟩)
                                                    | (exfalso; omega)
                                                    | ((try subst hM1)
                                                       refine ⟨by first | omega | exact congrArg tkNum (by omega), ?_⟩
                                                       have s1 := step_book2 hI (b := 1) (w := M 929 708) (o := 2083) (v := w32 (M 929 (2083 + M 929 708) + min (max (2 * price - 2 * M 929 (830 + pledge)) 0) (rI (M 929) pledge))) (by omega) (by omega) (by omega) rfl
                                                       have s2 := step_book2 s1 (b := 4) (w := M 929 708) (o := 2986) (v := w32 (M 929 (2986 + M 929 708) + 1)) (by omega) (by omega) (by omega) rfl
                                                       have s3 := step_book2 s2 (b := 5) (w := M 929 708) (o := 3287) (v := w32 (M 929 (3287 + M 929 708) + min (2 * price) (2 * M 929 (830 + pledge) + rI (M 929) pledge))) (by omega) (by omega) (by omega) rfl
                                                       have s4 := step_over s3 (p := pledge) (v := max (2 * price - (2 * M 929 (830 + pledge) + rI (M 929) pledge)) 0) (by (try simp (disch := omega) only [jset_k, jset_j, jset_same, true_and, and_true, cKill_o, rKill_o]); try omega) rfl
                                                       have s5 := step_left2 s4 (p := pledge) (by (try simp (disch := omega) only [jset_k, jset_j, jset_same, true_and, and_true, cKill_o, rKill_o]); try omega)
                                                       simp (disch := omega) only [jset_k (k' := 929) (j' := 708), jset_j (j' := 708)] at s5
                                                       have s6 := step_kill s5 (p := pledge) (n := M 929 1310) (n2 := M 929 1310) (by (try simp (disch := omega) only [jset_k, jset_j, jset_same, true_and, and_true, cKill_o, rKill_o]); try omega) (by (try simp (disch := omega) only [jset_k, jset_j, jset_same, true_and, and_true, cKill_o, rKill_o]); try omega)
                                                       refine inv_eq s6 ?_ ?_
                                                       · repeat (first | exact Ceq.rf | refine Ceq.lg ?_ | refine Ceq.rg ?_ | refine Ceq.lk ?_ | refine Ceq.rk ?_ | refine Ceq.lr ?_ | refine Ceq.rr ?_ | refine Ceq.give ?_ (by omega) (by omega) | refine Ceq.kill ?_ (by omega) (by omega) | refine Ceq.set ?_ (by omega) (by omega) (by first | rfl | omega | exact congrArg w32 (by omega)))
                                                       · simp (disch := first | omega | (simp (disch := omega) only [jset_k, jset_j, jset_same, true_and, and_true, cKill_o, rKill_o]; omega)) only [rGive_929, rKill_929, jset_929, cGive_hi, cKill_hi, cEnter_hi, jset_row]
                                                         repeat (first | rfl | refine aGive_cong ?_ (by omega) (by omega) | refine aKill_cong ?_ (by omega) (by omega) | refine rset_cong ?_ (by omega) (by first | rfl | omega | exact congrArg w32 (by omega))))))))
                          · dsimp only [jpush]
                            (try simp (disch := omega) only [jset_k, jset_j, jset_same, true_and, and_true, hA, cKill_o, rKill_o, cEnter, cLeave_1, cLeave_2, rLeave, iOf_set] at w35)
                            (try simp (disch := omega) only [jset_k, jset_j, jset_same, true_and, and_true, hA, cKill_o, rKill_o, cEnter, cLeave_1, cLeave_2, rLeave, iOf_set])
                            first
                             | (exfalso; omega)
                             | (skip
                                refine e_if_ne 41 44 dX12_sale_38 (by decide) (by decide) rfl (fun h => absurd h (by decide)) (fun _ => ?_)
                                refine e_ldc (z := (-1000000)) 43 (ix := 218) wd_1510 (by decide) dX12_sale_41 rfl ?_
                                refine e_iret dX12_sale_43 ?_
                                first
                                  | (exact ⟨by omega, hI⟩)
                                  | (exfalso; omega)
                                  | ((try subst hM1)
                                     refine ⟨by first | omega | exact congrArg tkNum (by omega), ?_⟩
                                     have s1 := step_book2 hI (b := 1) (w := M 929 708) (o := 2083) (v := w32 (M 929 (2083 + M 929 708) + min (max (2 * price - 2 * M 929 (830 + pledge)) 0) (rI (M 929) pledge))) (by omega) (by omega) (by omega) rfl
                                     have s2 := step_book2 s1 (b := 4) (w := M 929 708) (o := 2986) (v := w32 (M 929 (2986 + M 929 708) + 1)) (by omega) (by omega) (by omega) rfl
                                     have s3 := step_book2 s2 (b := 5) (w := M 929 708) (o := 3287) (v := w32 (M 929 (3287 + M 929 708) + min (2 * price) (2 * M 929 (830 + pledge) + rI (M 929) pledge))) (by omega) (by omega) (by omega) rfl
                                     have s4 := step_over s3 (p := pledge) (v := max (2 * price - (2 * M 929 (830 + pledge) + rI (M 929) pledge)) 0) (by (try simp (disch := omega) only [jset_k, jset_j, jset_same, true_and, and_true, cKill_o, rKill_o]); try omega) rfl
                                     have s5 := step_left2 s4 (p := pledge) (by (try simp (disch := omega) only [jset_k, jset_j, jset_same, true_and, and_true, cKill_o, rKill_o]); try omega)
                                     simp (disch := omega) only [jset_k (k' := 929) (j' := 708), jset_j (j' := 708)] at s5
                                     have s6 := step_kill s5 (p := pledge) (n := M 929 1310) (n2 := M 929 1310) (by (try simp (disch := omega) only [jset_k, jset_j, jset_same, true_and, and_true, cKill_o, rKill_o]); try omega) (by (try simp (disch := omega) only [jset_k, jset_j, jset_same, true_and, and_true, cKill_o, rKill_o]); try omega)
                                     refine inv_eq s6 ?_ ?_
                                     · repeat (first | exact Ceq.rf | refine Ceq.lg ?_ | refine Ceq.rg ?_ | refine Ceq.lk ?_ | refine Ceq.rk ?_ | refine Ceq.lr ?_ | refine Ceq.rr ?_ | refine Ceq.give ?_ (by omega) (by omega) | refine Ceq.kill ?_ (by omega) (by omega) | refine Ceq.set ?_ (by omega) (by omega) (by first | rfl | omega | exact congrArg w32 (by omega)))
                                     · simp (disch := first | omega | (simp (disch := omega) only [jset_k, jset_j, jset_same, true_and, and_true, cKill_o, rKill_o]; omega)) only [rGive_929, rKill_929, jset_929, cGive_hi, cKill_hi, cEnter_hi, jset_row]
                                       repeat (first | rfl | refine aGive_cong ?_ (by omega) (by omega) | refine aKill_cong ?_ (by omega) (by omega) | refine rset_cong ?_ (by omega) (by first | rfl | omega | exact congrArg w32 (by omega)))))))
              · dsimp only [jpush]
                (try simp (disch := omega) only [jset_k, jset_j, jset_same, true_and, and_true, hA, cKill_o, rKill_o, cEnter, cLeave_1, cLeave_2, rLeave, iOf_set] at w15)
                (try simp (disch := omega) only [jset_k, jset_j, jset_same, true_and, and_true, hA, cKill_o, rKill_o, cEnter, cLeave_1, cLeave_2, rLeave, iOf_set])
                first
                 | (exfalso; omega)
                 | (skip
                    refine e_if_eq 21 41 dX12_sale_18 (by decide) (by decide) rfl (fun _ => ?_) (fun h => absurd h (by decide))
                    refine e_ldc (z := (-1000000)) 43 (ix := 218) wd_1510 (by decide) dX12_sale_41 rfl ?_
                    refine e_iret dX12_sale_43 ?_
                    first
                      | (exact ⟨by omega, hI⟩)
                      | (exfalso; omega)
                      | ((try subst hM1)
                         refine ⟨by first | omega | exact congrArg tkNum (by omega), ?_⟩
                         have s1 := step_book2 hI (b := 1) (w := M 929 708) (o := 2083) (v := w32 (M 929 (2083 + M 929 708) + min (max (2 * price - 2 * M 929 (830 + pledge)) 0) (rI (M 929) pledge))) (by omega) (by omega) (by omega) rfl
                         have s2 := step_book2 s1 (b := 4) (w := M 929 708) (o := 2986) (v := w32 (M 929 (2986 + M 929 708) + 1)) (by omega) (by omega) (by omega) rfl
                         have s3 := step_book2 s2 (b := 5) (w := M 929 708) (o := 3287) (v := w32 (M 929 (3287 + M 929 708) + min (2 * price) (2 * M 929 (830 + pledge) + rI (M 929) pledge))) (by omega) (by omega) (by omega) rfl
                         have s4 := step_over s3 (p := pledge) (v := max (2 * price - (2 * M 929 (830 + pledge) + rI (M 929) pledge)) 0) (by (try simp (disch := omega) only [jset_k, jset_j, jset_same, true_and, and_true, cKill_o, rKill_o]); try omega) rfl
                         have s5 := step_left2 s4 (p := pledge) (by (try simp (disch := omega) only [jset_k, jset_j, jset_same, true_and, and_true, cKill_o, rKill_o]); try omega)
                         simp (disch := omega) only [jset_k (k' := 929) (j' := 708), jset_j (j' := 708)] at s5
                         have s6 := step_kill s5 (p := pledge) (n := M 929 1310) (n2 := M 929 1310) (by (try simp (disch := omega) only [jset_k, jset_j, jset_same, true_and, and_true, cKill_o, rKill_o]); try omega) (by (try simp (disch := omega) only [jset_k, jset_j, jset_same, true_and, and_true, cKill_o, rKill_o]); try omega)
                         refine inv_eq s6 ?_ ?_
                         · repeat (first | exact Ceq.rf | refine Ceq.lg ?_ | refine Ceq.rg ?_ | refine Ceq.lk ?_ | refine Ceq.rk ?_ | refine Ceq.lr ?_ | refine Ceq.rr ?_ | refine Ceq.give ?_ (by omega) (by omega) | refine Ceq.kill ?_ (by omega) (by omega) | refine Ceq.set ?_ (by omega) (by omega) (by first | rfl | omega | exact congrArg w32 (by omega)))
                         · simp (disch := first | omega | (simp (disch := omega) only [jset_k, jset_j, jset_same, true_and, and_true, cKill_o, rKill_o]; omega)) only [rGive_929, rKill_929, jset_929, cGive_hi, cKill_hi, cEnter_hi, jset_row]
                           repeat (first | rfl | refine aGive_cong ?_ (by omega) (by omega) | refine aKill_cong ?_ (by omega) (by omega) | refine rset_cong ?_ (by omega) (by first | rfl | omega | exact congrArg w32 (by omega))))))
        · dsimp only [jpush]
          (try simp (disch := omega) only [jset_k, jset_j, jset_same, true_and, and_true, hA, cKill_o, rKill_o, cEnter, cLeave_1, cLeave_2, rLeave, iOf_set] at w7)
          (try simp (disch := omega) only [jset_k, jset_j, jset_same, true_and, and_true, hA, cKill_o, rKill_o, cEnter, cLeave_1, cLeave_2, rLeave, iOf_set])
          first
           | (exfalso; omega)
           | (skip
              refine e_if_eq 13 41 dX12_sale_10 (by decide) (by decide) rfl (fun _ => ?_) (fun h => absurd h (by decide))
              refine e_ldc (z := (-1000000)) 43 (ix := 218) wd_1510 (by decide) dX12_sale_41 rfl ?_
              refine e_iret dX12_sale_43 ?_
              first
                | (exact ⟨by omega, hI⟩)
                | (exfalso; omega)
                | ((try subst hM1)
                   refine ⟨by first | omega | exact congrArg tkNum (by omega), ?_⟩
                   have s1 := step_book2 hI (b := 1) (w := M 929 708) (o := 2083) (v := w32 (M 929 (2083 + M 929 708) + min (max (2 * price - 2 * M 929 (830 + pledge)) 0) (rI (M 929) pledge))) (by omega) (by omega) (by omega) rfl
                   have s2 := step_book2 s1 (b := 4) (w := M 929 708) (o := 2986) (v := w32 (M 929 (2986 + M 929 708) + 1)) (by omega) (by omega) (by omega) rfl
                   have s3 := step_book2 s2 (b := 5) (w := M 929 708) (o := 3287) (v := w32 (M 929 (3287 + M 929 708) + min (2 * price) (2 * M 929 (830 + pledge) + rI (M 929) pledge))) (by omega) (by omega) (by omega) rfl
                   have s4 := step_over s3 (p := pledge) (v := max (2 * price - (2 * M 929 (830 + pledge) + rI (M 929) pledge)) 0) (by (try simp (disch := omega) only [jset_k, jset_j, jset_same, true_and, and_true, cKill_o, rKill_o]); try omega) rfl
                   have s5 := step_left2 s4 (p := pledge) (by (try simp (disch := omega) only [jset_k, jset_j, jset_same, true_and, and_true, cKill_o, rKill_o]); try omega)
                   simp (disch := omega) only [jset_k (k' := 929) (j' := 708), jset_j (j' := 708)] at s5
                   have s6 := step_kill s5 (p := pledge) (n := M 929 1310) (n2 := M 929 1310) (by (try simp (disch := omega) only [jset_k, jset_j, jset_same, true_and, and_true, cKill_o, rKill_o]); try omega) (by (try simp (disch := omega) only [jset_k, jset_j, jset_same, true_and, and_true, cKill_o, rKill_o]); try omega)
                   refine inv_eq s6 ?_ ?_
                   · repeat (first | exact Ceq.rf | refine Ceq.lg ?_ | refine Ceq.rg ?_ | refine Ceq.lk ?_ | refine Ceq.rk ?_ | refine Ceq.lr ?_ | refine Ceq.rr ?_ | refine Ceq.give ?_ (by omega) (by omega) | refine Ceq.kill ?_ (by omega) (by omega) | refine Ceq.set ?_ (by omega) (by omega) (by first | rfl | omega | exact congrArg w32 (by omega)))
                   · simp (disch := first | omega | (simp (disch := omega) only [jset_k, jset_j, jset_same, true_and, and_true, cKill_o, rKill_o]; omega)) only [rGive_929, rKill_929, jset_929, cGive_hi, cKill_hi, cEnter_hi, jset_row]
                     repeat (first | rfl | refine aGive_cong ?_ (by omega) (by omega) | refine aKill_cong ?_ (by omega) (by omega) | refine rset_cong ?_ (by omega) (by first | rfl | omega | exact congrArg w32 (by omega)))))
      · dsimp only [jpush]
        (try simp (disch := omega) only [jset_k, jset_j, jset_same, true_and, and_true, cKill_o, rKill_o, cEnter, cLeave_1, cLeave_2, rLeave, iOf_set])
        refine e_if_ne 41 44 dX11_sale_38 (by decide) (by decide) rfl (fun h => absurd h (by decide)) (fun _ => ?_)
        refine e_ldc (z := (-1000000)) 43 (ix := 173) wd_765 (by decide) dX11_sale_41 rfl ?_
        refine e_iret dX11_sale_43 ?_
        refine jCt_of mt_yX12_sale (Nat.le_of_ble_eq_true rfl) (fun X2 => ?_)
        refine e_aload_n (i := 0) 1 dX12_sale_0 rfl rfl rfl ?_
        refine e_iconst 2 dX12_sale_1 rfl ?_
        refine e_put0 (j := 0) 5 fl_12_1 dX12_sale_2 at_928 rfl rfl rfl (by decide) hI.1 rfl ?_
        refine e_aload_n (i := 0) 6 dX12_sale_5 rfl rfl rfl ?_
        refine e_iload_n (i := 1) 7 dX12_sale_6 rfl rfl rfl ?_
        refine e_callV 10 mt_yX12_isPledge mv_yX12_isPledge wd_1579 (by decide) dX12_sale_7 at_928 jc_12 rfl rfl rfl (Nat.le_of_ble_eq_true rfl) (jroom (by decide)) rfl (m_isPledge (by omega) (fun w7 => ?_) (fun w7 => ?_))
        · dsimp only [jpush]
          first
           | (exfalso; omega)
           | (skip
              refine e_if_eq 13 41 dX12_sale_10 (by decide) (by decide) rfl (fun h => absurd h (by decide)) (fun _ => ?_)
              refine e_aload_n (i := 0) 14 dX12_sale_13 rfl rfl rfl ?_
              refine e_iload_n (i := 1) 15 dX12_sale_14 rfl rfl rfl ?_
              refine e_callV 18 mt_yX12_isPassed mv_yX12_isPassed wd_1603 (by decide) dX12_sale_15 at_928 jc_12 rfl rfl rfl (Nat.le_of_ble_eq_true rfl) (jroom (by decide)) rfl (m_isPassed (by omega) (by first | (have := hC.plr (p := pledge) (by omega) (by omega); omega) | (simp only [hA]; have := hC.plr (p := pledge) (by omega) (by omega); omega)) (fun w15 => ?_) (fun w15 => ?_))
              · dsimp only [jpush]
                first
                 | (exfalso; omega)
                 | (skip
                    refine e_if_eq 21 41 dX12_sale_18 (by decide) (by decide) rfl (fun h => absurd h (by decide)) (fun _ => ?_)
                    refine e_aload_n (i := 0) 22 dX12_sale_21 rfl rfl rfl ?_
                    refine e_iload_n (i := 1) 23 dX12_sale_22 rfl rfl rfl ?_
                    refine e_callV 26 mt_yX12_isHeld mv_yX12_isHeld wd_1559 (by decide) dX12_sale_23 at_928 jc_12 rfl rfl rfl (Nat.le_of_ble_eq_true rfl) (jroom (by decide)) rfl (m_isHeld (by omega) (fun w23 => ?_) (fun w23 => ?_))
                    · dsimp only [jpush]
                      first
                       | (exfalso; omega)
                       | (skip
                          refine e_if_ne 29 41 dX12_sale_26 (by decide) (by decide) rfl (fun _ => ?_) (fun h => absurd h (by decide))
                          refine e_ldc (z := (-1000000)) 43 (ix := 218) wd_1510 (by decide) dX12_sale_41 rfl ?_
                          refine e_iret dX12_sale_43 ?_
                          first
                            | (exact ⟨by omega, hI⟩)
                            | (exfalso; omega))
                    · dsimp only [jpush]
                      first
                       | (exfalso; omega)
                       | (skip
                          refine e_if_ne 29 41 dX12_sale_26 (by decide) (by decide) rfl (fun h => absurd h (by decide)) (fun _ => ?_)
                          refine e_iload_n (i := 2) 30 dX12_sale_29 rfl rfl rfl ?_
                          refine e_i2l 31 dX12_sale_30 (by omega) rfl ?_
                          refine e_lconst0 32 dX12_sale_31 rfl ?_
                          refine e_ldc2 (z := (9999)) 35 (ix := 213) wd_1501 (by decide) dX12_sale_32 rfl ?_
                          refine e_callS 38 mt_yX12_within ms_yX12_within wd_1390 (by decide) dX12_sale_35 rfl rfl (Nat.le_of_ble_eq_true rfl) (jroom (by decide)) rfl (m_within (by omega) (by omega) (by omega) (fun w35 => ?_) (fun w35 => ?_))
                          · dsimp only [jpush]
                            first
                             | (exfalso; omega)
                             | (skip
                                refine e_if_ne 41 44 dX12_sale_38 (by decide) (by decide) rfl (fun _ => ?_) (fun h => absurd h (by decide))
                                refine e_aload_n (i := 0) 45 dX12_sale_44 rfl rfl rfl ?_
                                refine e_iload_n (i := 1) 46 dX12_sale_45 rfl rfl rfl ?_
                                refine e_callV 49 mt_yX12_dueOf mv_yX12_dueOf wd_1547 (by decide) dX12_sale_46 at_928 jc_12 rfl rfl rfl (Nat.le_of_ble_eq_true rfl) (jroom (by decide)) rfl (m_dueOf (by first | exact hC.1.okP (by omega) (by omega) | (rw [hA]; exact hC.1.okP (by omega) (by omega))) ?_)
                                dsimp only [jpush]
                                refine e_istore_n (i := 3) (lsn := [(3, _), (0, _), (1, _), (2, _)]) 50 dX12_sale_49 rfl (by decide) rfl rfl ?_
                                refine e_aload_n (i := 0) 51 dX12_sale_50 rfl rfl rfl ?_
                                refine e_iload_n (i := 1) 52 dX12_sale_51 rfl rfl rfl ?_
                                refine e_callV 55 mt_yX12_interestOf mv_yX12_interestOf wd_1551 (by decide) dX12_sale_52 at_928 jc_12 rfl rfl rfl (Nat.le_of_ble_eq_true rfl) (jroom (by decide)) rfl (m_interestOf (by first | exact hC.1.okP (by omega) (by omega) | (rw [hA]; exact hC.1.okP (by omega) (by omega))) ?_)
                                dsimp only [jpush]
                                refine e_istore (lsn := [(4, _), (3, _), (0, _), (1, _), (2, _)]) 57 dX12_sale_55 (by decide) rfl rfl ?_
                                refine e_iconst 58 dX12_sale_57 rfl ?_
                                refine e_iload_n (i := 2) 59 dX12_sale_58 rfl rfl rfl ?_
                                refine e_imul 60 dX12_sale_59 rfl ?_
                                refine e_iconst 61 dX12_sale_60 rfl ?_
                                refine e_aload_n (i := 0) 62 dX12_sale_61 rfl rfl rfl ?_
                                refine e_getr (j := 1) 65 fl_12_13 dX12_sale_62 at_928 rfl rfl tp_928_1 rfl ?_
                                refine e_sipush 68 dX12_sale_65 (by decide) rfl ?_
                                refine e_iload_n (i := 1) 69 dX12_sale_68 rfl rfl rfl ?_
                                refine e_iadd 70 dX12_sale_69 rfl ?_
                                refine e_iald 71 dX12_sale_70 ar_929 (by omega) (by omega) rfl (fun r70 => ?_)
                                refine e_imul 72 dX12_sale_71 rfl ?_
                                refine e_isub 73 dX12_sale_72 rfl ?_
                                refine e_istore (lsn := [(5, _), (4, _), (3, _), (0, _), (1, _), (2, _)]) 75 dX12_sale_73 (by decide) rfl rfl ?_
                                refine e_iload 77 dX12_sale_75 rfl rfl ?_
                                refine e_if_ge 80 84 dX12_sale_77 (by omega) (by decide) rfl (fun b77 => ?_) (fun b77 => ?_)
                                · first
                                   | (exfalso; omega)
                                   | (skip
                                      refine e_iload 86 dX12_sale_84 rfl rfl ?_
                                      refine e_iload 88 dX12_sale_86 rfl rfl ?_
                                      refine e_icmp_le 91 96 dX12_sale_88 (by omega) (by omega) (by decide) rfl (fun b88 => ?_) (fun b88 => ?_)
                                      · first
                                         | (exfalso; omega)
                                         | (skip
                                            refine e_iload 98 dX12_sale_96 rfl rfl ?_
                                            refine e_istore (lsn := [(5, _), (4, _), (3, _), (0, _), (1, _), (2, _)]) 100 dX12_sale_98 (by decide) rfl rfl ?_
                                            refine e_aload_n (i := 0) 101 dX12_sale_100 rfl rfl rfl ?_
                                            refine e_getr (j := 1) 104 fl_12_13 dX12_sale_101 at_928 rfl rfl tp_928_1 rfl ?_
                                            refine e_sipush 107 dX12_sale_104 (by decide) rfl ?_
                                            refine e_aload_n (i := 0) 108 dX12_sale_107 rfl rfl rfl ?_
                                            refine e_getr (j := 1) 111 fl_12_13 dX12_sale_108 at_928 rfl rfl tp_928_1 rfl ?_
                                            refine e_sipush 114 dX12_sale_111 (by decide) rfl ?_
                                            refine e_iald 115 dX12_sale_114 ar_929 (by decide) (by decide) rfl (fun r114 => ?_)
                                            refine e_iadd 116 dX12_sale_115 rfl ?_
                                            refine e_dup2 117 dX12_sale_116 rfl rfl rfl ?_
                                            refine e_iald 118 dX12_sale_117 ar_929 (by omega) (by omega) rfl (fun r117 => ?_)
                                            refine e_iload 120 dX12_sale_118 rfl rfl ?_
                                            refine e_iadd 121 dX12_sale_120 rfl ?_
                                            refine e_iastw 122 dX12_sale_121 ar_929 (by omega) (by omega) rfl ?_
                                            refine e_aload_n (i := 0) 123 dX12_sale_122 rfl rfl rfl ?_
                                            refine e_getr (j := 1) 126 fl_12_13 dX12_sale_123 at_928 rfl rfl tp_928_1 rfl ?_
                                            refine e_sipush 129 dX12_sale_126 (by decide) rfl ?_
                                            refine e_aload_n (i := 0) 130 dX12_sale_129 rfl rfl rfl ?_
                                            refine e_getr (j := 1) 133 fl_12_13 dX12_sale_130 at_928 rfl rfl tp_928_1 rfl ?_
                                            refine e_sipush 136 dX12_sale_133 (by decide) rfl ?_
                                            refine e_iald 137 dX12_sale_136 ar_929 (by decide) (by decide) rfl (fun r136 => ?_)
                                            simp (disch := omega) only [jset_k, jset_j, jset_same, true_and, and_true] at r136 ⊢
                                            refine e_iadd 138 dX12_sale_137 rfl ?_
                                            refine e_dup2 139 dX12_sale_138 rfl rfl rfl ?_
                                            refine e_iald 140 dX12_sale_139 ar_929 (by omega) (by omega) rfl (fun r139 => ?_)
                                            simp (disch := omega) only [jset_k, jset_j, jset_same, true_and, and_true] at r139 ⊢
                                            refine e_iconst 141 dX12_sale_140 rfl ?_
                                            refine e_iadd 142 dX12_sale_141 rfl ?_
                                            refine e_iastw 143 dX12_sale_142 ar_929 (by omega) (by omega) rfl ?_
                                            refine e_aload_n (i := 0) 144 dX12_sale_143 rfl rfl rfl ?_
                                            refine e_getr (j := 1) 147 fl_12_13 dX12_sale_144 at_928 rfl rfl tp_928_1 rfl ?_
                                            refine e_sipush 150 dX12_sale_147 (by decide) rfl ?_
                                            refine e_aload_n (i := 0) 151 dX12_sale_150 rfl rfl rfl ?_
                                            refine e_getr (j := 1) 154 fl_12_13 dX12_sale_151 at_928 rfl rfl tp_928_1 rfl ?_
                                            refine e_sipush 157 dX12_sale_154 (by decide) rfl ?_
                                            refine e_iald 158 dX12_sale_157 ar_929 (by decide) (by decide) rfl (fun r157 => ?_)
                                            simp (disch := omega) only [jset_k, jset_j, jset_same, true_and, and_true] at r157 ⊢
                                            refine e_iadd 159 dX12_sale_158 rfl ?_
                                            refine e_dup2 160 dX12_sale_159 rfl rfl rfl ?_
                                            refine e_iald 161 dX12_sale_160 ar_929 (by omega) (by omega) rfl (fun r160 => ?_)
                                            simp (disch := omega) only [jset_k, jset_j, jset_same, true_and, and_true] at r160 ⊢
                                            refine e_iconst 162 dX12_sale_161 rfl ?_
                                            refine e_iload_n (i := 2) 163 dX12_sale_162 rfl rfl rfl ?_
                                            refine e_imul 164 dX12_sale_163 rfl ?_
                                            refine e_iload_n (i := 3) 165 dX12_sale_164 rfl rfl rfl ?_
                                            refine e_icmp_ge 168 174 dX12_sale_165 (by omega) (by omega) (by decide) rfl (fun b165 => ?_) (fun b165 => ?_)
                                            · first
                                               | (exfalso; omega)
                                               | (skip
                                                  refine e_iload_n (i := 3) 175 dX12_sale_174 rfl rfl rfl ?_
                                                  refine e_iadd 176 dX12_sale_175 rfl ?_
                                                  refine e_iastw 177 dX12_sale_176 ar_929 (by omega) (by omega) rfl ?_
                                                  refine e_aload_n (i := 0) 178 dX12_sale_177 rfl rfl rfl ?_
                                                  refine e_getr (j := 1) 181 fl_12_13 dX12_sale_178 at_928 rfl rfl tp_928_1 rfl ?_
                                                  refine e_sipush 184 dX12_sale_181 (by decide) rfl ?_
                                                  refine e_iload_n (i := 1) 185 dX12_sale_184 rfl rfl rfl ?_
                                                  refine e_iadd 186 dX12_sale_185 rfl ?_
                                                  refine e_iconst 187 dX12_sale_186 rfl ?_
                                                  refine e_iload_n (i := 2) 188 dX12_sale_187 rfl rfl rfl ?_
                                                  refine e_imul 189 dX12_sale_188 rfl ?_
                                                  refine e_iload_n (i := 3) 190 dX12_sale_189 rfl rfl rfl ?_
                                                  refine e_icmp_le 193 201 dX12_sale_190 (by omega) (by omega) (by decide) rfl (fun b190 => ?_) (fun b190 => ?_)
                                                  · first
                                                     | (exfalso; omega)
                                                     | (skip
                                                        refine e_iconst 202 dX12_sale_201 rfl ?_
                                                        refine e_iast 203 dX12_sale_202 ar_929 (by omega) (by omega) (by decide) rfl ?_
                                                        refine e_aload_n (i := 0) 204 dX12_sale_203 rfl rfl rfl ?_
                                                        refine e_iload_n (i := 1) 205 dX12_sale_204 rfl rfl rfl ?_
                                                        refine e_iconst 206 dX12_sale_205 rfl ?_
                                                        refine e_callV 209 mt_yX12_leaves mv_yX12_leaves wd_1563 (by decide) dX12_sale_206 at_928 jc_12 rfl rfl rfl (Nat.le_of_ble_eq_true rfl) (jroom (by decide)) rfl (m_leaves (by omega) (by decide) (by (try simp (disch := omega) only [jset_k, jset_j, jset_same, true_and, and_true, hA, rKill_o]); omega) ?_)
                                                        dsimp only [jpush]
                                                        refine e_iconst 210 dX12_sale_209 rfl ?_
                                                        refine e_iload_n (i := 2) 211 dX12_sale_210 rfl rfl rfl ?_
                                                        refine e_imul 212 dX12_sale_211 rfl ?_
                                                        refine e_iload_n (i := 3) 213 dX12_sale_212 rfl rfl rfl ?_
                                                        refine e_isub 214 dX12_sale_213 rfl ?_
                                                        refine e_iret dX12_sale_214 ?_
                                                        first
                                                          | (exact ⟨by omega, hI⟩)
                                                          | (exfalso; omega)
                                                          | ((try subst hM1)
                                                             refine ⟨by first | omega | exact congrArg tkNum (by omega), ?_⟩
                                                             have s1 := step_book2 hI (b := 1) (w := M 929 708) (o := 2083) (v := w32 (M 929 (2083 + M 929 708) + min (max (2 * price - 2 * M 929 (830 + pledge)) 0) (rI (M 929) pledge))) (by omega) (by omega) (by omega) rfl
                                                             have s2 := step_book2 s1 (b := 4) (w := M 929 708) (o := 2986) (v := w32 (M 929 (2986 + M 929 708) + 1)) (by omega) (by omega) (by omega) rfl
                                                             have s3 := step_book2 s2 (b := 5) (w := M 929 708) (o := 3287) (v := w32 (M 929 (3287 + M 929 708) + min (2 * price) (2 * M 929 (830 + pledge) + rI (M 929) pledge))) (by omega) (by omega) (by omega) rfl
                                                             have s4 := step_over s3 (p := pledge) (v := max (2 * price - (2 * M 929 (830 + pledge) + rI (M 929) pledge)) 0) (by (try simp (disch := omega) only [jset_k, jset_j, jset_same, true_and, and_true, cKill_o, rKill_o]); try omega) rfl
                                                             have s5 := step_left2 s4 (p := pledge) (by (try simp (disch := omega) only [jset_k, jset_j, jset_same, true_and, and_true, cKill_o, rKill_o]); try omega)
                                                             simp (disch := omega) only [jset_k (k' := 929) (j' := 708), jset_j (j' := 708)] at s5
                                                             have s6 := step_kill s5 (p := pledge) (n := M 929 1310) (n2 := M 929 1310) (by (try simp (disch := omega) only [jset_k, jset_j, jset_same, true_and, and_true, cKill_o, rKill_o]); try omega) (by (try simp (disch := omega) only [jset_k, jset_j, jset_same, true_and, and_true, cKill_o, rKill_o]); try omega)
                                                             refine inv_eq s6 ?_ ?_
                                                             · repeat (first | exact Ceq.rf | refine Ceq.lg ?_ | refine Ceq.rg ?_ | refine Ceq.lk ?_ | refine Ceq.rk ?_ | refine Ceq.lr ?_ | refine Ceq.rr ?_ | refine Ceq.give ?_ (by omega) (by omega) | refine Ceq.kill ?_ (by omega) (by omega) | refine Ceq.set ?_ (by omega) (by omega) (by first | rfl | omega | exact congrArg w32 (by omega)))
                                                             · simp (disch := first | omega | (simp (disch := omega) only [jset_k, jset_j, jset_same, true_and, and_true, cKill_o, rKill_o]; omega)) only [rGive_929, rKill_929, jset_929, cGive_hi, cKill_hi, cEnter_hi, jset_row]
                                                               repeat (first | rfl | refine aGive_cong ?_ (by omega) (by omega) | refine aKill_cong ?_ (by omega) (by omega) | refine rset_cong ?_ (by omega) (by first | rfl | omega | exact congrArg w32 (by omega)))))
                                                  · first
                                                     | (exfalso; omega)
                                                     | (skip
                                                        refine e_iconst 194 dX12_sale_193 rfl ?_
                                                        refine e_iload_n (i := 2) 195 dX12_sale_194 rfl rfl rfl ?_
                                                        refine e_imul 196 dX12_sale_195 rfl ?_
                                                        refine e_iload_n (i := 3) 197 dX12_sale_196 rfl rfl rfl ?_
                                                        refine e_isub 198 dX12_sale_197 rfl ?_
                                                        refine e_goto 202 dX12_sale_198 (by decide) ?_
                                                        refine e_iast 203 dX12_sale_202 ar_929 (by omega) (by omega) (by omega) rfl ?_
                                                        refine e_aload_n (i := 0) 204 dX12_sale_203 rfl rfl rfl ?_
                                                        refine e_iload_n (i := 1) 205 dX12_sale_204 rfl rfl rfl ?_
                                                        refine e_iconst 206 dX12_sale_205 rfl ?_
                                                        refine e_callV 209 mt_yX12_leaves mv_yX12_leaves wd_1563 (by decide) dX12_sale_206 at_928 jc_12 rfl rfl rfl (Nat.le_of_ble_eq_true rfl) (jroom (by decide)) rfl (m_leaves (by omega) (by decide) (by (try simp (disch := omega) only [jset_k, jset_j, jset_same, true_and, and_true, hA, rKill_o]); omega) ?_)
                                                        dsimp only [jpush]
                                                        refine e_iconst 210 dX12_sale_209 rfl ?_
                                                        refine e_iload_n (i := 2) 211 dX12_sale_210 rfl rfl rfl ?_
                                                        refine e_imul 212 dX12_sale_211 rfl ?_
                                                        refine e_iload_n (i := 3) 213 dX12_sale_212 rfl rfl rfl ?_
                                                        refine e_isub 214 dX12_sale_213 rfl ?_
                                                        refine e_iret dX12_sale_214 ?_
                                                        first
                                                          | (exact ⟨by omega, hI⟩)
                                                          | (exfalso; omega)
                                                          | ((try subst hM1)
                                                             refine ⟨by first | omega | exact congrArg tkNum (by omega), ?_⟩
                                                             have s1 := step_book2 hI (b := 1) (w := M 929 708) (o := 2083) (v := w32 (M 929 (2083 + M 929 708) + min (max (2 * price - 2 * M 929 (830 + pledge)) 0) (rI (M 929) pledge))) (by omega) (by omega) (by omega) rfl
                                                             have s2 := step_book2 s1 (b := 4) (w := M 929 708) (o := 2986) (v := w32 (M 929 (2986 + M 929 708) + 1)) (by omega) (by omega) (by omega) rfl
                                                             have s3 := step_book2 s2 (b := 5) (w := M 929 708) (o := 3287) (v := w32 (M 929 (3287 + M 929 708) + min (2 * price) (2 * M 929 (830 + pledge) + rI (M 929) pledge))) (by omega) (by omega) (by omega) rfl
                                                             have s4 := step_over s3 (p := pledge) (v := max (2 * price - (2 * M 929 (830 + pledge) + rI (M 929) pledge)) 0) (by (try simp (disch := omega) only [jset_k, jset_j, jset_same, true_and, and_true, cKill_o, rKill_o]); try omega) rfl
                                                             have s5 := step_left2 s4 (p := pledge) (by (try simp (disch := omega) only [jset_k, jset_j, jset_same, true_and, and_true, cKill_o, rKill_o]); try omega)
                                                             simp (disch := omega) only [jset_k (k' := 929) (j' := 708), jset_j (j' := 708)] at s5
                                                             have s6 := step_kill s5 (p := pledge) (n := M 929 1310) (n2 := M 929 1310) (by (try simp (disch := omega) only [jset_k, jset_j, jset_same, true_and, and_true, cKill_o, rKill_o]); try omega) (by (try simp (disch := omega) only [jset_k, jset_j, jset_same, true_and, and_true, cKill_o, rKill_o]); try omega)
                                                             refine inv_eq s6 ?_ ?_
                                                             · repeat (first | exact Ceq.rf | refine Ceq.lg ?_ | refine Ceq.rg ?_ | refine Ceq.lk ?_ | refine Ceq.rk ?_ | refine Ceq.lr ?_ | refine Ceq.rr ?_ | refine Ceq.give ?_ (by omega) (by omega) | refine Ceq.kill ?_ (by omega) (by omega) | refine Ceq.set ?_ (by omega) (by omega) (by first | rfl | omega | exact congrArg w32 (by omega)))
                                                             · simp (disch := first | omega | (simp (disch := omega) only [jset_k, jset_j, jset_same, true_and, and_true, cKill_o, rKill_o]; omega)) only [rGive_929, rKill_929, jset_929, cGive_hi, cKill_hi, cEnter_hi, jset_row]
                                                               repeat (first | rfl | refine aGive_cong ?_ (by omega) (by omega) | refine aKill_cong ?_ (by omega) (by omega) | refine rset_cong ?_ (by omega) (by first | rfl | omega | exact congrArg w32 (by omega))))))
                                            · first
                                               | (exfalso; omega)
                                               | (skip
                                                  refine e_iconst 169 dX12_sale_168 rfl ?_
                                                  refine e_iload_n (i := 2) 170 dX12_sale_169 rfl rfl rfl ?_
                                                  refine e_imul 171 dX12_sale_170 rfl ?_
                                                  refine e_goto 175 dX12_sale_171 (by decide) ?_
                                                  refine e_iadd 176 dX12_sale_175 rfl ?_
                                                  refine e_iastw 177 dX12_sale_176 ar_929 (by omega) (by omega) rfl ?_
                                                  refine e_aload_n (i := 0) 178 dX12_sale_177 rfl rfl rfl ?_
                                                  refine e_getr (j := 1) 181 fl_12_13 dX12_sale_178 at_928 rfl rfl tp_928_1 rfl ?_
                                                  refine e_sipush 184 dX12_sale_181 (by decide) rfl ?_
                                                  refine e_iload_n (i := 1) 185 dX12_sale_184 rfl rfl rfl ?_
                                                  refine e_iadd 186 dX12_sale_185 rfl ?_
                                                  refine e_iconst 187 dX12_sale_186 rfl ?_
                                                  refine e_iload_n (i := 2) 188 dX12_sale_187 rfl rfl rfl ?_
                                                  refine e_imul 189 dX12_sale_188 rfl ?_
                                                  refine e_iload_n (i := 3) 190 dX12_sale_189 rfl rfl rfl ?_
                                                  refine e_icmp_le 193 201 dX12_sale_190 (by omega) (by omega) (by decide) rfl (fun b190 => ?_) (fun b190 => ?_)
                                                  · first
                                                     | (exfalso; omega)
                                                     | (skip
                                                        refine e_iconst 202 dX12_sale_201 rfl ?_
                                                        refine e_iast 203 dX12_sale_202 ar_929 (by omega) (by omega) (by decide) rfl ?_
                                                        refine e_aload_n (i := 0) 204 dX12_sale_203 rfl rfl rfl ?_
                                                        refine e_iload_n (i := 1) 205 dX12_sale_204 rfl rfl rfl ?_
                                                        refine e_iconst 206 dX12_sale_205 rfl ?_
                                                        refine e_callV 209 mt_yX12_leaves mv_yX12_leaves wd_1563 (by decide) dX12_sale_206 at_928 jc_12 rfl rfl rfl (Nat.le_of_ble_eq_true rfl) (jroom (by decide)) rfl (m_leaves (by omega) (by decide) (by (try simp (disch := omega) only [jset_k, jset_j, jset_same, true_and, and_true, hA, rKill_o]); omega) ?_)
                                                        dsimp only [jpush]
                                                        refine e_iconst 210 dX12_sale_209 rfl ?_
                                                        refine e_iload_n (i := 2) 211 dX12_sale_210 rfl rfl rfl ?_
                                                        refine e_imul 212 dX12_sale_211 rfl ?_
                                                        refine e_iload_n (i := 3) 213 dX12_sale_212 rfl rfl rfl ?_
                                                        refine e_isub 214 dX12_sale_213 rfl ?_
                                                        refine e_iret dX12_sale_214 ?_
                                                        first
                                                          | (exact ⟨by omega, hI⟩)
                                                          | (exfalso; omega)
                                                          | ((try subst hM1)
                                                             refine ⟨by first | omega | exact congrArg tkNum (by omega), ?_⟩
                                                             have s1 := step_book2 hI (b := 1) (w := M 929 708) (o := 2083) (v := w32 (M 929 (2083 + M 929 708) + min (max (2 * price - 2 * M 929 (830 + pledge)) 0) (rI (M 929) pledge))) (by omega) (by omega) (by omega) rfl
                                                             have s2 := step_book2 s1 (b := 4) (w := M 929 708) (o := 2986) (v := w32 (M 929 (2986 + M 929 708) + 1)) (by omega) (by omega) (by omega) rfl
                                                             have s3 := step_book2 s2 (b := 5) (w := M 929 708) (o := 3287) (v := w32 (M 929 (3287 + M 929 708) + min (2 * price) (2 * M 929 (830 + pledge) + rI (M 929) pledge))) (by omega) (by omega) (by omega) rfl
                                                             have s4 := step_over s3 (p := pledge) (v := max (2 * price - (2 * M 929 (830 + pledge) + rI (M 929) pledge)) 0) (by (try simp (disch := omega) only [jset_k, jset_j, jset_same, true_and, and_true, cKill_o, rKill_o]); try omega) rfl
                                                             have s5 := step_left2 s4 (p := pledge) (by (try simp (disch := omega) only [jset_k, jset_j, jset_same, true_and, and_true, cKill_o, rKill_o]); try omega)
                                                             simp (disch := omega) only [jset_k (k' := 929) (j' := 708), jset_j (j' := 708)] at s5
                                                             have s6 := step_kill s5 (p := pledge) (n := M 929 1310) (n2 := M 929 1310) (by (try simp (disch := omega) only [jset_k, jset_j, jset_same, true_and, and_true, cKill_o, rKill_o]); try omega) (by (try simp (disch := omega) only [jset_k, jset_j, jset_same, true_and, and_true, cKill_o, rKill_o]); try omega)
                                                             refine inv_eq s6 ?_ ?_
                                                             · repeat (first | exact Ceq.rf | refine Ceq.lg ?_ | refine Ceq.rg ?_ | refine Ceq.lk ?_ | refine Ceq.rk ?_ | refine Ceq.lr ?_ | refine Ceq.rr ?_ | refine Ceq.give ?_ (by omega) (by omega) | refine Ceq.kill ?_ (by omega) (by omega) | refine Ceq.set ?_ (by omega) (by omega) (by first | rfl | omega | exact congrArg w32 (by omega)))
                                                             · simp (disch := first | omega | (simp (disch := omega) only [jset_k, jset_j, jset_same, true_and, and_true, cKill_o, rKill_o]; omega)) only [rGive_929, rKill_929, jset_929, cGive_hi, cKill_hi, cEnter_hi, jset_row]
                                                               repeat (first | rfl | refine aGive_cong ?_ (by omega) (by omega) | refine aKill_cong ?_ (by omega) (by omega) | refine rset_cong ?_ (by omega) (by first | rfl | omega | exact congrArg w32 (by omega)))))
                                                  · first
                                                     | (exfalso; omega)
                                                     | (skip
                                                        refine e_iconst 194 dX12_sale_193 rfl ?_
                                                        refine e_iload_n (i := 2) 195 dX12_sale_194 rfl rfl rfl ?_
                                                        refine e_imul 196 dX12_sale_195 rfl ?_
                                                        refine e_iload_n (i := 3) 197 dX12_sale_196 rfl rfl rfl ?_
                                                        refine e_isub 198 dX12_sale_197 rfl ?_
                                                        refine e_goto 202 dX12_sale_198 (by decide) ?_
                                                        refine e_iast 203 dX12_sale_202 ar_929 (by omega) (by omega) (by omega) rfl ?_
                                                        refine e_aload_n (i := 0) 204 dX12_sale_203 rfl rfl rfl ?_
                                                        refine e_iload_n (i := 1) 205 dX12_sale_204 rfl rfl rfl ?_
                                                        refine e_iconst 206 dX12_sale_205 rfl ?_
                                                        refine e_callV 209 mt_yX12_leaves mv_yX12_leaves wd_1563 (by decide) dX12_sale_206 at_928 jc_12 rfl rfl rfl (Nat.le_of_ble_eq_true rfl) (jroom (by decide)) rfl (m_leaves (by omega) (by decide) (by (try simp (disch := omega) only [jset_k, jset_j, jset_same, true_and, and_true, hA, rKill_o]); omega) ?_)
                                                        dsimp only [jpush]
                                                        refine e_iconst 210 dX12_sale_209 rfl ?_
                                                        refine e_iload_n (i := 2) 211 dX12_sale_210 rfl rfl rfl ?_
                                                        refine e_imul 212 dX12_sale_211 rfl ?_
                                                        refine e_iload_n (i := 3) 213 dX12_sale_212 rfl rfl rfl ?_
                                                        refine e_isub 214 dX12_sale_213 rfl ?_
                                                        refine e_iret dX12_sale_214 ?_
                                                        first
                                                          | (exact ⟨by omega, hI⟩)
                                                          | (exfalso; omega)
                                                          | ((try subst hM1)
                                                             refine ⟨by first | omega | exact congrArg tkNum (by omega), ?_⟩
                                                             have s1 := step_book2 hI (b := 1) (w := M 929 708) (o := 2083) (v := w32 (M 929 (2083 + M 929 708) + min (max (2 * price - 2 * M 929 (830 + pledge)) 0) (rI (M 929) pledge))) (by omega) (by omega) (by omega) rfl
                                                             have s2 := step_book2 s1 (b := 4) (w := M 929 708) (o := 2986) (v := w32 (M 929 (2986 + M 929 708) + 1)) (by omega) (by omega) (by omega) rfl
                                                             have s3 := step_book2 s2 (b := 5) (w := M 929 708) (o := 3287) (v := w32 (M 929 (3287 + M 929 708) + min (2 * price) (2 * M 929 (830 + pledge) + rI (M 929) pledge))) (by omega) (by omega) (by omega) rfl
                                                             have s4 := step_over s3 (p := pledge) (v := max (2 * price - (2 * M 929 (830 + pledge) + rI (M 929) pledge)) 0) (by (try simp (disch := omega) only [jset_k, jset_j, jset_same, true_and, and_true, cKill_o, rKill_o]); try omega) rfl
                                                             have s5 := step_left2 s4 (p := pledge) (by (try simp (disch := omega) only [jset_k, jset_j, jset_same, true_and, and_true, cKill_o, rKill_o]); try omega)
                                                             simp (disch := omega) only [jset_k (k' := 929) (j' := 708), jset_j (j' := 708)] at s5
                                                             have s6 := step_kill s5 (p := pledge) (n := M 929 1310) (n2 := M 929 1310) (by (try simp (disch := omega) only [jset_k, jset_j, jset_same, true_and, and_true, cKill_o, rKill_o]); try omega) (by (try simp (disch := omega) only [jset_k, jset_j, jset_same, true_and, and_true, cKill_o, rKill_o]); try omega)
                                                             refine inv_eq s6 ?_ ?_
                                                             · repeat (first | exact Ceq.rf | refine Ceq.lg ?_ | refine Ceq.rg ?_ | refine Ceq.lk ?_ | refine Ceq.rk ?_ | refine Ceq.lr ?_ | refine Ceq.rr ?_ | refine Ceq.give ?_ (by omega) (by omega) | refine Ceq.kill ?_ (by omega) (by omega) | refine Ceq.set ?_ (by omega) (by omega) (by first | rfl | omega | exact congrArg w32 (by omega)))
                                                             · simp (disch := first | omega | (simp (disch := omega) only [jset_k, jset_j, jset_same, true_and, and_true, cKill_o, rKill_o]; omega)) only [rGive_929, rKill_929, jset_929, cGive_hi, cKill_hi, cEnter_hi, jset_row]
                                                               repeat (first | rfl | refine aGive_cong ?_ (by omega) (by omega) | refine aKill_cong ?_ (by omega) (by omega) | refine rset_cong ?_ (by omega) (by first | rfl | omega | exact congrArg w32 (by omega)))))))
                                      · first
                                         | (exfalso; omega)
                                         | (skip
                                            refine e_iload 93 dX12_sale_91 rfl rfl ?_
                                            refine e_goto 98 dX12_sale_93 (by decide) ?_
                                            refine e_istore (lsn := [(5, _), (4, _), (3, _), (0, _), (1, _), (2, _)]) 100 dX12_sale_98 (by decide) rfl rfl ?_
                                            refine e_aload_n (i := 0) 101 dX12_sale_100 rfl rfl rfl ?_
                                            refine e_getr (j := 1) 104 fl_12_13 dX12_sale_101 at_928 rfl rfl tp_928_1 rfl ?_
                                            refine e_sipush 107 dX12_sale_104 (by decide) rfl ?_
                                            refine e_aload_n (i := 0) 108 dX12_sale_107 rfl rfl rfl ?_
                                            refine e_getr (j := 1) 111 fl_12_13 dX12_sale_108 at_928 rfl rfl tp_928_1 rfl ?_
                                            refine e_sipush 114 dX12_sale_111 (by decide) rfl ?_
                                            refine e_iald 115 dX12_sale_114 ar_929 (by decide) (by decide) rfl (fun r114 => ?_)
                                            refine e_iadd 116 dX12_sale_115 rfl ?_
                                            refine e_dup2 117 dX12_sale_116 rfl rfl rfl ?_
                                            refine e_iald 118 dX12_sale_117 ar_929 (by omega) (by omega) rfl (fun r117 => ?_)
                                            refine e_iload 120 dX12_sale_118 rfl rfl ?_
                                            refine e_iadd 121 dX12_sale_120 rfl ?_
                                            refine e_iastw 122 dX12_sale_121 ar_929 (by omega) (by omega) rfl ?_
                                            refine e_aload_n (i := 0) 123 dX12_sale_122 rfl rfl rfl ?_
                                            refine e_getr (j := 1) 126 fl_12_13 dX12_sale_123 at_928 rfl rfl tp_928_1 rfl ?_
                                            refine e_sipush 129 dX12_sale_126 (by decide) rfl ?_
                                            refine e_aload_n (i := 0) 130 dX12_sale_129 rfl rfl rfl ?_
                                            refine e_getr (j := 1) 133 fl_12_13 dX12_sale_130 at_928 rfl rfl tp_928_1 rfl ?_
                                            refine e_sipush 136 dX12_sale_133 (by decide) rfl ?_
                                            refine e_iald 137 dX12_sale_136 ar_929 (by decide) (by decide) rfl (fun r136 => ?_)
                                            simp (disch := omega) only [jset_k, jset_j, jset_same, true_and, and_true] at r136 ⊢
                                            refine e_iadd 138 dX12_sale_137 rfl ?_
                                            refine e_dup2 139 dX12_sale_138 rfl rfl rfl ?_
                                            refine e_iald 140 dX12_sale_139 ar_929 (by omega) (by omega) rfl (fun r139 => ?_)
                                            simp (disch := omega) only [jset_k, jset_j, jset_same, true_and, and_true] at r139 ⊢
                                            refine e_iconst 141 dX12_sale_140 rfl ?_
                                            refine e_iadd 142 dX12_sale_141 rfl ?_
                                            refine e_iastw 143 dX12_sale_142 ar_929 (by omega) (by omega) rfl ?_
                                            refine e_aload_n (i := 0) 144 dX12_sale_143 rfl rfl rfl ?_
                                            refine e_getr (j := 1) 147 fl_12_13 dX12_sale_144 at_928 rfl rfl tp_928_1 rfl ?_
                                            refine e_sipush 150 dX12_sale_147 (by decide) rfl ?_
                                            refine e_aload_n (i := 0) 151 dX12_sale_150 rfl rfl rfl ?_
                                            refine e_getr (j := 1) 154 fl_12_13 dX12_sale_151 at_928 rfl rfl tp_928_1 rfl ?_
                                            refine e_sipush 157 dX12_sale_154 (by decide) rfl ?_
                                            refine e_iald 158 dX12_sale_157 ar_929 (by decide) (by decide) rfl (fun r157 => ?_)
                                            simp (disch := omega) only [jset_k, jset_j, jset_same, true_and, and_true] at r157 ⊢
                                            refine e_iadd 159 dX12_sale_158 rfl ?_
                                            refine e_dup2 160 dX12_sale_159 rfl rfl rfl ?_
                                            refine e_iald 161 dX12_sale_160 ar_929 (by omega) (by omega) rfl (fun r160 => ?_)
                                            simp (disch := omega) only [jset_k, jset_j, jset_same, true_and, and_true] at r160 ⊢
                                            refine e_iconst 162 dX12_sale_161 rfl ?_
                                            refine e_iload_n (i := 2) 163 dX12_sale_162 rfl rfl rfl ?_
                                            refine e_imul 164 dX12_sale_163 rfl ?_
                                            refine e_iload_n (i := 3) 165 dX12_sale_164 rfl rfl rfl ?_
                                            refine e_icmp_ge 168 174 dX12_sale_165 (by omega) (by omega) (by decide) rfl (fun b165 => ?_) (fun b165 => ?_)
                                            · first
                                               | (exfalso; omega)
                                               | (skip
                                                  refine e_iload_n (i := 3) 175 dX12_sale_174 rfl rfl rfl ?_
                                                  refine e_iadd 176 dX12_sale_175 rfl ?_
                                                  refine e_iastw 177 dX12_sale_176 ar_929 (by omega) (by omega) rfl ?_
                                                  refine e_aload_n (i := 0) 178 dX12_sale_177 rfl rfl rfl ?_
                                                  refine e_getr (j := 1) 181 fl_12_13 dX12_sale_178 at_928 rfl rfl tp_928_1 rfl ?_
                                                  refine e_sipush 184 dX12_sale_181 (by decide) rfl ?_
                                                  refine e_iload_n (i := 1) 185 dX12_sale_184 rfl rfl rfl ?_
                                                  refine e_iadd 186 dX12_sale_185 rfl ?_
                                                  refine e_iconst 187 dX12_sale_186 rfl ?_
                                                  refine e_iload_n (i := 2) 188 dX12_sale_187 rfl rfl rfl ?_
                                                  refine e_imul 189 dX12_sale_188 rfl ?_
                                                  refine e_iload_n (i := 3) 190 dX12_sale_189 rfl rfl rfl ?_
                                                  refine e_icmp_le 193 201 dX12_sale_190 (by omega) (by omega) (by decide) rfl (fun b190 => ?_) (fun b190 => ?_)
                                                  · first
                                                     | (exfalso; omega)
                                                     | (skip
                                                        refine e_iconst 202 dX12_sale_201 rfl ?_
                                                        refine e_iast 203 dX12_sale_202 ar_929 (by omega) (by omega) (by decide) rfl ?_
                                                        refine e_aload_n (i := 0) 204 dX12_sale_203 rfl rfl rfl ?_
                                                        refine e_iload_n (i := 1) 205 dX12_sale_204 rfl rfl rfl ?_
                                                        refine e_iconst 206 dX12_sale_205 rfl ?_
                                                        refine e_callV 209 mt_yX12_leaves mv_yX12_leaves wd_1563 (by decide) dX12_sale_206 at_928 jc_12 rfl rfl rfl (Nat.le_of_ble_eq_true rfl) (jroom (by decide)) rfl (m_leaves (by omega) (by decide) (by (try simp (disch := omega) only [jset_k, jset_j, jset_same, true_and, and_true, hA, rKill_o]); omega) ?_)
                                                        dsimp only [jpush]
                                                        refine e_iconst 210 dX12_sale_209 rfl ?_
                                                        refine e_iload_n (i := 2) 211 dX12_sale_210 rfl rfl rfl ?_
                                                        refine e_imul 212 dX12_sale_211 rfl ?_
                                                        refine e_iload_n (i := 3) 213 dX12_sale_212 rfl rfl rfl ?_
                                                        refine e_isub 214 dX12_sale_213 rfl ?_
                                                        refine e_iret dX12_sale_214 ?_
                                                        first
                                                          | (exact ⟨by omega, hI⟩)
                                                          | (exfalso; omega)
                                                          | ((try subst hM1)
                                                             refine ⟨by first | omega | exact congrArg tkNum (by omega), ?_⟩
                                                             have s1 := step_book2 hI (b := 1) (w := M 929 708) (o := 2083) (v := w32 (M 929 (2083 + M 929 708) + min (max (2 * price - 2 * M 929 (830 + pledge)) 0) (rI (M 929) pledge))) (by omega) (by omega) (by omega) rfl
                                                             have s2 := step_book2 s1 (b := 4) (w := M 929 708) (o := 2986) (v := w32 (M 929 (2986 + M 929 708) + 1)) (by omega) (by omega) (by omega) rfl
                                                             have s3 := step_book2 s2 (b := 5) (w := M 929 708) (o := 3287) (v := w32 (M 929 (3287 + M 929 708) + min (2 * price) (2 * M 929 (830 + pledge) + rI (M 929) pledge))) (by omega) (by omega) (by omega) rfl
                                                             have s4 := step_over s3 (p := pledge) (v := max (2 * price - (2 * M 929 (830 + pledge) + rI (M 929) pledge)) 0) (by (try simp (disch := omega) only [jset_k, jset_j, jset_same, true_and, and_true, cKill_o, rKill_o]); try omega) rfl
                                                             have s5 := step_left2 s4 (p := pledge) (by (try simp (disch := omega) only [jset_k, jset_j, jset_same, true_and, and_true, cKill_o, rKill_o]); try omega)
                                                             simp (disch := omega) only [jset_k (k' := 929) (j' := 708), jset_j (j' := 708)] at s5
                                                             have s6 := step_kill s5 (p := pledge) (n := M 929 1310) (n2 := M 929 1310) (by (try simp (disch := omega) only [jset_k, jset_j, jset_same, true_and, and_true, cKill_o, rKill_o]); try omega) (by (try simp (disch := omega) only [jset_k, jset_j, jset_same, true_and, and_true, cKill_o, rKill_o]); try omega)
                                                             refine inv_eq s6 ?_ ?_
                                                             · repeat (first | exact Ceq.rf | refine Ceq.lg ?_ | refine Ceq.rg ?_ | refine Ceq.lk ?_ | refine Ceq.rk ?_ | refine Ceq.lr ?_ | refine Ceq.rr ?_ | refine Ceq.give ?_ (by omega) (by omega) | refine Ceq.kill ?_ (by omega) (by omega) | refine Ceq.set ?_ (by omega) (by omega) (by first | rfl | omega | exact congrArg w32 (by omega)))
                                                             · simp (disch := first | omega | (simp (disch := omega) only [jset_k, jset_j, jset_same, true_and, and_true, cKill_o, rKill_o]; omega)) only [rGive_929, rKill_929, jset_929, cGive_hi, cKill_hi, cEnter_hi, jset_row]
                                                               repeat (first | rfl | refine aGive_cong ?_ (by omega) (by omega) | refine aKill_cong ?_ (by omega) (by omega) | refine rset_cong ?_ (by omega) (by first | rfl | omega | exact congrArg w32 (by omega)))))
                                                  · first
                                                     | (exfalso; omega)
                                                     | (skip
                                                        refine e_iconst 194 dX12_sale_193 rfl ?_
                                                        refine e_iload_n (i := 2) 195 dX12_sale_194 rfl rfl rfl ?_
                                                        refine e_imul 196 dX12_sale_195 rfl ?_
                                                        refine e_iload_n (i := 3) 197 dX12_sale_196 rfl rfl rfl ?_
                                                        refine e_isub 198 dX12_sale_197 rfl ?_
                                                        refine e_goto 202 dX12_sale_198 (by decide) ?_
                                                        refine e_iast 203 dX12_sale_202 ar_929 (by omega) (by omega) (by omega) rfl ?_
                                                        refine e_aload_n (i := 0) 204 dX12_sale_203 rfl rfl rfl ?_
                                                        refine e_iload_n (i := 1) 205 dX12_sale_204 rfl rfl rfl ?_
                                                        refine e_iconst 206 dX12_sale_205 rfl ?_
                                                        refine e_callV 209 mt_yX12_leaves mv_yX12_leaves wd_1563 (by decide) dX12_sale_206 at_928 jc_12 rfl rfl rfl (Nat.le_of_ble_eq_true rfl) (jroom (by decide)) rfl (m_leaves (by omega) (by decide) (by (try simp (disch := omega) only [jset_k, jset_j, jset_same, true_and, and_true, hA, rKill_o]); omega) ?_)
                                                        dsimp only [jpush]
                                                        refine e_iconst 210 dX12_sale_209 rfl ?_
                                                        refine e_iload_n (i := 2) 211 dX12_sale_210 rfl rfl rfl ?_
                                                        refine e_imul 212 dX12_sale_211 rfl ?_
                                                        refine e_iload_n (i := 3) 213 dX12_sale_212 rfl rfl rfl ?_
                                                        refine e_isub 214 dX12_sale_213 rfl ?_
                                                        refine e_iret dX12_sale_214 ?_
                                                        first
                                                          | (exact ⟨by omega, hI⟩)
                                                          | (exfalso; omega)
                                                          | ((try subst hM1)
                                                             refine ⟨by first | omega | exact congrArg tkNum (by omega), ?_⟩
                                                             have s1 := step_book2 hI (b := 1) (w := M 929 708) (o := 2083) (v := w32 (M 929 (2083 + M 929 708) + min (max (2 * price - 2 * M 929 (830 + pledge)) 0) (rI (M 929) pledge))) (by omega) (by omega) (by omega) rfl
                                                             have s2 := step_book2 s1 (b := 4) (w := M 929 708) (o := 2986) (v := w32 (M 929 (2986 + M 929 708) + 1)) (by omega) (by omega) (by omega) rfl
                                                             have s3 := step_book2 s2 (b := 5) (w := M 929 708) (o := 3287) (v := w32 (M 929 (3287 + M 929 708) + min (2 * price) (2 * M 929 (830 + pledge) + rI (M 929) pledge))) (by omega) (by omega) (by omega) rfl
                                                             have s4 := step_over s3 (p := pledge) (v := max (2 * price - (2 * M 929 (830 + pledge) + rI (M 929) pledge)) 0) (by (try simp (disch := omega) only [jset_k, jset_j, jset_same, true_and, and_true, cKill_o, rKill_o]); try omega) rfl
                                                             have s5 := step_left2 s4 (p := pledge) (by (try simp (disch := omega) only [jset_k, jset_j, jset_same, true_and, and_true, cKill_o, rKill_o]); try omega)
                                                             simp (disch := omega) only [jset_k (k' := 929) (j' := 708), jset_j (j' := 708)] at s5
                                                             have s6 := step_kill s5 (p := pledge) (n := M 929 1310) (n2 := M 929 1310) (by (try simp (disch := omega) only [jset_k, jset_j, jset_same, true_and, and_true, cKill_o, rKill_o]); try omega) (by (try simp (disch := omega) only [jset_k, jset_j, jset_same, true_and, and_true, cKill_o, rKill_o]); try omega)
                                                             refine inv_eq s6 ?_ ?_
                                                             · repeat (first | exact Ceq.rf | refine Ceq.lg ?_ | refine Ceq.rg ?_ | refine Ceq.lk ?_ | refine Ceq.rk ?_ | refine Ceq.lr ?_ | refine Ceq.rr ?_ | refine Ceq.give ?_ (by omega) (by omega) | refine Ceq.kill ?_ (by omega) (by omega) | refine Ceq.set ?_ (by omega) (by omega) (by first | rfl | omega | exact congrArg w32 (by omega)))
                                                             · simp (disch := first | omega | (simp (disch := omega) only [jset_k, jset_j, jset_same, true_and, and_true, cKill_o, rKill_o]; omega)) only [rGive_929, rKill_929, jset_929, cGive_hi, cKill_hi, cEnter_hi, jset_row]
                                                               repeat (first | rfl | refine aGive_cong ?_ (by omega) (by omega) | refine aKill_cong ?_ (by omega) (by omega) | refine rset_cong ?_ (by omega) (by first | rfl | omega | exact congrArg w32 (by omega))))))
                                            · first
                                               | (exfalso; omega)
                                               | (skip
                                                  refine e_iconst 169 dX12_sale_168 rfl ?_
                                                  refine e_iload_n (i := 2) 170 dX12_sale_169 rfl rfl rfl ?_
                                                  refine e_imul 171 dX12_sale_170 rfl ?_
                                                  refine e_goto 175 dX12_sale_171 (by decide) ?_
                                                  refine e_iadd 176 dX12_sale_175 rfl ?_
                                                  refine e_iastw 177 dX12_sale_176 ar_929 (by omega) (by omega) rfl ?_
                                                  refine e_aload_n (i := 0) 178 dX12_sale_177 rfl rfl rfl ?_
                                                  refine e_getr (j := 1) 181 fl_12_13 dX12_sale_178 at_928 rfl rfl tp_928_1 rfl ?_
                                                  refine e_sipush 184 dX12_sale_181 (by decide) rfl ?_
                                                  refine e_iload_n (i := 1) 185 dX12_sale_184 rfl rfl rfl ?_
                                                  refine e_iadd 186 dX12_sale_185 rfl ?_
                                                  refine e_iconst 187 dX12_sale_186 rfl ?_
                                                  refine e_iload_n (i := 2) 188 dX12_sale_187 rfl rfl rfl ?_
                                                  refine e_imul 189 dX12_sale_188 rfl ?_
                                                  refine e_iload_n (i := 3) 190 dX12_sale_189 rfl rfl rfl ?_
                                                  refine e_icmp_le 193 201 dX12_sale_190 (by omega) (by omega) (by decide) rfl (fun b190 => ?_) (fun b190 => ?_)
                                                  · first
                                                     | (exfalso; omega)
                                                     | (skip
                                                        refine e_iconst 202 dX12_sale_201 rfl ?_
                                                        refine e_iast 203 dX12_sale_202 ar_929 (by omega) (by omega) (by decide) rfl ?_
                                                        refine e_aload_n (i := 0) 204 dX12_sale_203 rfl rfl rfl ?_
                                                        refine e_iload_n (i := 1) 205 dX12_sale_204 rfl rfl rfl ?_
                                                        refine e_iconst 206 dX12_sale_205 rfl ?_
                                                        refine e_callV 209 mt_yX12_leaves mv_yX12_leaves wd_1563 (by decide) dX12_sale_206 at_928 jc_12 rfl rfl rfl (Nat.le_of_ble_eq_true rfl) (jroom (by decide)) rfl (m_leaves (by omega) (by decide) (by (try simp (disch := omega) only [jset_k, jset_j, jset_same, true_and, and_true, hA, rKill_o]); omega) ?_)
                                                        dsimp only [jpush]
                                                        refine e_iconst 210 dX12_sale_209 rfl ?_
                                                        refine e_iload_n (i := 2) 211 dX12_sale_210 rfl rfl rfl ?_
                                                        refine e_imul 212 dX12_sale_211 rfl ?_
                                                        refine e_iload_n (i := 3) 213 dX12_sale_212 rfl rfl rfl ?_
                                                        refine e_isub 214 dX12_sale_213 rfl ?_
                                                        refine e_iret dX12_sale_214 ?_
                                                        first
                                                          | (exact ⟨by omega, hI⟩)
                                                          | (exfalso; omega)
                                                          | ((try subst hM1)
                                                             refine ⟨by first | omega | exact congrArg tkNum (by omega), ?_⟩
                                                             have s1 := step_book2 hI (b := 1) (w := M 929 708) (o := 2083) (v := w32 (M 929 (2083 + M 929 708) + min (max (2 * price - 2 * M 929 (830 + pledge)) 0) (rI (M 929) pledge))) (by omega) (by omega) (by omega) rfl
                                                             have s2 := step_book2 s1 (b := 4) (w := M 929 708) (o := 2986) (v := w32 (M 929 (2986 + M 929 708) + 1)) (by omega) (by omega) (by omega) rfl
                                                             have s3 := step_book2 s2 (b := 5) (w := M 929 708) (o := 3287) (v := w32 (M 929 (3287 + M 929 708) + min (2 * price) (2 * M 929 (830 + pledge) + rI (M 929) pledge))) (by omega) (by omega) (by omega) rfl
                                                             have s4 := step_over s3 (p := pledge) (v := max (2 * price - (2 * M 929 (830 + pledge) + rI (M 929) pledge)) 0) (by (try simp (disch := omega) only [jset_k, jset_j, jset_same, true_and, and_true, cKill_o, rKill_o]); try omega) rfl
                                                             have s5 := step_left2 s4 (p := pledge) (by (try simp (disch := omega) only [jset_k, jset_j, jset_same, true_and, and_true, cKill_o, rKill_o]); try omega)
                                                             simp (disch := omega) only [jset_k (k' := 929) (j' := 708), jset_j (j' := 708)] at s5
                                                             have s6 := step_kill s5 (p := pledge) (n := M 929 1310) (n2 := M 929 1310) (by (try simp (disch := omega) only [jset_k, jset_j, jset_same, true_and, and_true, cKill_o, rKill_o]); try omega) (by (try simp (disch := omega) only [jset_k, jset_j, jset_same, true_and, and_true, cKill_o, rKill_o]); try omega)
                                                             refine inv_eq s6 ?_ ?_
                                                             · repeat (first | exact Ceq.rf | refine Ceq.lg ?_ | refine Ceq.rg ?_ | refine Ceq.lk ?_ | refine Ceq.rk ?_ | refine Ceq.lr ?_ | refine Ceq.rr ?_ | refine Ceq.give ?_ (by omega) (by omega) | refine Ceq.kill ?_ (by omega) (by omega) | refine Ceq.set ?_ (by omega) (by omega) (by first | rfl | omega | exact congrArg w32 (by omega)))
                                                             · simp (disch := first | omega | (simp (disch := omega) only [jset_k, jset_j, jset_same, true_and, and_true, cKill_o, rKill_o]; omega)) only [rGive_929, rKill_929, jset_929, cGive_hi, cKill_hi, cEnter_hi, jset_row]
                                                               repeat (first | rfl | refine aGive_cong ?_ (by omega) (by omega) | refine aKill_cong ?_ (by omega) (by omega) | refine rset_cong ?_ (by omega) (by first | rfl | omega | exact congrArg w32 (by omega)))))
                                                  · first
                                                     | (exfalso; omega)
                                                     | (skip
                                                        refine e_iconst 194 dX12_sale_193 rfl ?_
                                                        refine e_iload_n (i := 2) 195 dX12_sale_194 rfl rfl rfl ?_
                                                        refine e_imul 196 dX12_sale_195 rfl ?_
                                                        refine e_iload_n (i := 3) 197 dX12_sale_196 rfl rfl rfl ?_
                                                        refine e_isub 198 dX12_sale_197 rfl ?_
                                                        refine e_goto 202 dX12_sale_198 (by decide) ?_
                                                        refine e_iast 203 dX12_sale_202 ar_929 (by omega) (by omega) (by omega) rfl ?_
                                                        refine e_aload_n (i := 0) 204 dX12_sale_203 rfl rfl rfl ?_
                                                        refine e_iload_n (i := 1) 205 dX12_sale_204 rfl rfl rfl ?_
                                                        refine e_iconst 206 dX12_sale_205 rfl ?_
                                                        refine e_callV 209 mt_yX12_leaves mv_yX12_leaves wd_1563 (by decide) dX12_sale_206 at_928 jc_12 rfl rfl rfl (Nat.le_of_ble_eq_true rfl) (jroom (by decide)) rfl (m_leaves (by omega) (by decide) (by (try simp (disch := omega) only [jset_k, jset_j, jset_same, true_and, and_true, hA, rKill_o]); omega) ?_)
                                                        dsimp only [jpush]
                                                        refine e_iconst 210 dX12_sale_209 rfl ?_
                                                        refine e_iload_n (i := 2) 211 dX12_sale_210 rfl rfl rfl ?_
                                                        refine e_imul 212 dX12_sale_211 rfl ?_
                                                        refine e_iload_n (i := 3) 213 dX12_sale_212 rfl rfl rfl ?_
                                                        refine e_isub 214 dX12_sale_213 rfl ?_
                                                        refine e_iret dX12_sale_214 ?_
                                                        first
                                                          | (exact ⟨by omega, hI⟩)
                                                          | (exfalso; omega)
                                                          | ((try subst hM1)
                                                             refine ⟨by first | omega | exact congrArg tkNum (by omega), ?_⟩
                                                             have s1 := step_book2 hI (b := 1) (w := M 929 708) (o := 2083) (v := w32 (M 929 (2083 + M 929 708) + min (max (2 * price - 2 * M 929 (830 + pledge)) 0) (rI (M 929) pledge))) (by omega) (by omega) (by omega) rfl
                                                             have s2 := step_book2 s1 (b := 4) (w := M 929 708) (o := 2986) (v := w32 (M 929 (2986 + M 929 708) + 1)) (by omega) (by omega) (by omega) rfl
                                                             have s3 := step_book2 s2 (b := 5) (w := M 929 708) (o := 3287) (v := w32 (M 929 (3287 + M 929 708) + min (2 * price) (2 * M 929 (830 + pledge) + rI (M 929) pledge))) (by omega) (by omega) (by omega) rfl
                                                             have s4 := step_over s3 (p := pledge) (v := max (2 * price - (2 * M 929 (830 + pledge) + rI (M 929) pledge)) 0) (by (try simp (disch := omega) only [jset_k, jset_j, jset_same, true_and, and_true, cKill_o, rKill_o]); try omega) rfl
                                                             have s5 := step_left2 s4 (p := pledge) (by (try simp (disch := omega) only [jset_k, jset_j, jset_same, true_and, and_true, cKill_o, rKill_o]); try omega)
                                                             simp (disch := omega) only [jset_k (k' := 929) (j' := 708), jset_j (j' := 708)] at s5
                                                             have s6 := step_kill s5 (p := pledge) (n := M 929 1310) (n2 := M 929 1310) (by (try simp (disch := omega) only [jset_k, jset_j, jset_same, true_and, and_true, cKill_o, rKill_o]); try omega) (by (try simp (disch := omega) only [jset_k, jset_j, jset_same, true_and, and_true, cKill_o, rKill_o]); try omega)
                                                             refine inv_eq s6 ?_ ?_
                                                             · repeat (first | exact Ceq.rf | refine Ceq.lg ?_ | refine Ceq.rg ?_ | refine Ceq.lk ?_ | refine Ceq.rk ?_ | refine Ceq.lr ?_ | refine Ceq.rr ?_ | refine Ceq.give ?_ (by omega) (by omega) | refine Ceq.kill ?_ (by omega) (by omega) | refine Ceq.set ?_ (by omega) (by omega) (by first | rfl | omega | exact congrArg w32 (by omega)))
                                                             · simp (disch := first | omega | (simp (disch := omega) only [jset_k, jset_j, jset_same, true_and, and_true, cKill_o, rKill_o]; omega)) only [rGive_929, rKill_929, jset_929, cGive_hi, cKill_hi, cEnter_hi, jset_row]
                                                               repeat (first | rfl | refine aGive_cong ?_ (by omega) (by omega) | refine aKill_cong ?_ (by omega) (by omega) | refine rset_cong ?_ (by omega) (by first | rfl | omega | exact congrArg w32 (by omega))))))))
                                · first
                                   | (exfalso; omega)
                                   | (skip
                                      refine e_iconst 81 dX12_sale_80 rfl ?_
                                      refine e_goto 98 dX12_sale_81 (by decide) ?_
                                      refine e_istore (lsn := [(5, _), (4, _), (3, _), (0, _), (1, _), (2, _)]) 100 dX12_sale_98 (by decide) rfl rfl ?_
                                      refine e_aload_n (i := 0) 101 dX12_sale_100 rfl rfl rfl ?_
                                      refine e_getr (j := 1) 104 fl_12_13 dX12_sale_101 at_928 rfl rfl tp_928_1 rfl ?_
                                      refine e_sipush 107 dX12_sale_104 (by decide) rfl ?_
                                      refine e_aload_n (i := 0) 108 dX12_sale_107 rfl rfl rfl ?_
                                      refine e_getr (j := 1) 111 fl_12_13 dX12_sale_108 at_928 rfl rfl tp_928_1 rfl ?_
                                      refine e_sipush 114 dX12_sale_111 (by decide) rfl ?_
                                      refine e_iald 115 dX12_sale_114 ar_929 (by decide) (by decide) rfl (fun r114 => ?_)
                                      refine e_iadd 116 dX12_sale_115 rfl ?_
                                      refine e_dup2 117 dX12_sale_116 rfl rfl rfl ?_
                                      refine e_iald 118 dX12_sale_117 ar_929 (by omega) (by omega) rfl (fun r117 => ?_)
                                      refine e_iload 120 dX12_sale_118 rfl rfl ?_
                                      refine e_iadd 121 dX12_sale_120 rfl ?_
                                      refine e_iastw 122 dX12_sale_121 ar_929 (by omega) (by omega) rfl ?_
                                      refine e_aload_n (i := 0) 123 dX12_sale_122 rfl rfl rfl ?_
                                      refine e_getr (j := 1) 126 fl_12_13 dX12_sale_123 at_928 rfl rfl tp_928_1 rfl ?_
                                      refine e_sipush 129 dX12_sale_126 (by decide) rfl ?_
                                      refine e_aload_n (i := 0) 130 dX12_sale_129 rfl rfl rfl ?_
                                      refine e_getr (j := 1) 133 fl_12_13 dX12_sale_130 at_928 rfl rfl tp_928_1 rfl ?_
                                      refine e_sipush 136 dX12_sale_133 (by decide) rfl ?_
                                      refine e_iald 137 dX12_sale_136 ar_929 (by decide) (by decide) rfl (fun r136 => ?_)
                                      simp (disch := omega) only [jset_k, jset_j, jset_same, true_and, and_true] at r136 ⊢
                                      refine e_iadd 138 dX12_sale_137 rfl ?_
                                      refine e_dup2 139 dX12_sale_138 rfl rfl rfl ?_
                                      refine e_iald 140 dX12_sale_139 ar_929 (by omega) (by omega) rfl (fun r139 => ?_)
                                      simp (disch := omega) only [jset_k, jset_j, jset_same, true_and, and_true] at r139 ⊢
                                      refine e_iconst 141 dX12_sale_140 rfl ?_
                                      refine e_iadd 142 dX12_sale_141 rfl ?_
                                      refine e_iastw 143 dX12_sale_142 ar_929 (by omega) (by omega) rfl ?_
                                      refine e_aload_n (i := 0) 144 dX12_sale_143 rfl rfl rfl ?_
                                      refine e_getr (j := 1) 147 fl_12_13 dX12_sale_144 at_928 rfl rfl tp_928_1 rfl ?_
                                      refine e_sipush 150 dX12_sale_147 (by decide) rfl ?_
                                      refine e_aload_n (i := 0) 151 dX12_sale_150 rfl rfl rfl ?_
                                      refine e_getr (j := 1) 154 fl_12_13 dX12_sale_151 at_928 rfl rfl tp_928_1 rfl ?_
                                      refine e_sipush 157 dX12_sale_154 (by decide) rfl ?_
                                      refine e_iald 158 dX12_sale_157 ar_929 (by decide) (by decide) rfl (fun r157 => ?_)
                                      simp (disch := omega) only [jset_k, jset_j, jset_same, true_and, and_true] at r157 ⊢
                                      refine e_iadd 159 dX12_sale_158 rfl ?_
                                      refine e_dup2 160 dX12_sale_159 rfl rfl rfl ?_
                                      refine e_iald 161 dX12_sale_160 ar_929 (by omega) (by omega) rfl (fun r160 => ?_)
                                      simp (disch := omega) only [jset_k, jset_j, jset_same, true_and, and_true] at r160 ⊢
                                      refine e_iconst 162 dX12_sale_161 rfl ?_
                                      refine e_iload_n (i := 2) 163 dX12_sale_162 rfl rfl rfl ?_
                                      refine e_imul 164 dX12_sale_163 rfl ?_
                                      refine e_iload_n (i := 3) 165 dX12_sale_164 rfl rfl rfl ?_
                                      refine e_icmp_ge 168 174 dX12_sale_165 (by omega) (by omega) (by decide) rfl (fun b165 => ?_) (fun b165 => ?_)
                                      · first
                                         | (exfalso; omega)
                                         | (skip
                                            refine e_iload_n (i := 3) 175 dX12_sale_174 rfl rfl rfl ?_
                                            refine e_iadd 176 dX12_sale_175 rfl ?_
                                            refine e_iastw 177 dX12_sale_176 ar_929 (by omega) (by omega) rfl ?_
                                            refine e_aload_n (i := 0) 178 dX12_sale_177 rfl rfl rfl ?_
                                            refine e_getr (j := 1) 181 fl_12_13 dX12_sale_178 at_928 rfl rfl tp_928_1 rfl ?_
                                            refine e_sipush 184 dX12_sale_181 (by decide) rfl ?_
                                            refine e_iload_n (i := 1) 185 dX12_sale_184 rfl rfl rfl ?_
                                            refine e_iadd 186 dX12_sale_185 rfl ?_
                                            refine e_iconst 187 dX12_sale_186 rfl ?_
                                            refine e_iload_n (i := 2) 188 dX12_sale_187 rfl rfl rfl ?_
                                            refine e_imul 189 dX12_sale_188 rfl ?_
                                            refine e_iload_n (i := 3) 190 dX12_sale_189 rfl rfl rfl ?_
                                            refine e_icmp_le 193 201 dX12_sale_190 (by omega) (by omega) (by decide) rfl (fun b190 => ?_) (fun b190 => ?_)
                                            · first
                                               | (exfalso; omega)
                                               | (skip
                                                  refine e_iconst 202 dX12_sale_201 rfl ?_
                                                  refine e_iast 203 dX12_sale_202 ar_929 (by omega) (by omega) (by decide) rfl ?_
                                                  refine e_aload_n (i := 0) 204 dX12_sale_203 rfl rfl rfl ?_
                                                  refine e_iload_n (i := 1) 205 dX12_sale_204 rfl rfl rfl ?_
                                                  refine e_iconst 206 dX12_sale_205 rfl ?_
                                                  refine e_callV 209 mt_yX12_leaves mv_yX12_leaves wd_1563 (by decide) dX12_sale_206 at_928 jc_12 rfl rfl rfl (Nat.le_of_ble_eq_true rfl) (jroom (by decide)) rfl (m_leaves (by omega) (by decide) (by (try simp (disch := omega) only [jset_k, jset_j, jset_same, true_and, and_true, hA, rKill_o]); omega) ?_)
                                                  dsimp only [jpush]
                                                  refine e_iconst 210 dX12_sale_209 rfl ?_
                                                  refine e_iload_n (i := 2) 211 dX12_sale_210 rfl rfl rfl ?_
                                                  refine e_imul 212 dX12_sale_211 rfl ?_
                                                  refine e_iload_n (i := 3) 213 dX12_sale_212 rfl rfl rfl ?_
                                                  refine e_isub 214 dX12_sale_213 rfl ?_
                                                  refine e_iret dX12_sale_214 ?_
                                                  first
                                                    | (exact ⟨by omega, hI⟩)
                                                    | (exfalso; omega)
                                                    | ((try subst hM1)
                                                       refine ⟨by first | omega | exact congrArg tkNum (by omega), ?_⟩
                                                       have s1 := step_book2 hI (b := 1) (w := M 929 708) (o := 2083) (v := w32 (M 929 (2083 + M 929 708) + min (max (2 * price - 2 * M 929 (830 + pledge)) 0) (rI (M 929) pledge))) (by omega) (by omega) (by omega) rfl
                                                       have s2 := step_book2 s1 (b := 4) (w := M 929 708) (o := 2986) (v := w32 (M 929 (2986 + M 929 708) + 1)) (by omega) (by omega) (by omega) rfl
                                                       have s3 := step_book2 s2 (b := 5) (w := M 929 708) (o := 3287) (v := w32 (M 929 (3287 + M 929 708) + min (2 * price) (2 * M 929 (830 + pledge) + rI (M 929) pledge))) (by omega) (by omega) (by omega) rfl
                                                       have s4 := step_over s3 (p := pledge) (v := max (2 * price - (2 * M 929 (830 + pledge) + rI (M 929) pledge)) 0) (by (try simp (disch := omega) only [jset_k, jset_j, jset_same, true_and, and_true, cKill_o, rKill_o]); try omega) rfl
                                                       have s5 := step_left2 s4 (p := pledge) (by (try simp (disch := omega) only [jset_k, jset_j, jset_same, true_and, and_true, cKill_o, rKill_o]); try omega)
                                                       simp (disch := omega) only [jset_k (k' := 929) (j' := 708), jset_j (j' := 708)] at s5
                                                       have s6 := step_kill s5 (p := pledge) (n := M 929 1310) (n2 := M 929 1310) (by (try simp (disch := omega) only [jset_k, jset_j, jset_same, true_and, and_true, cKill_o, rKill_o]); try omega) (by (try simp (disch := omega) only [jset_k, jset_j, jset_same, true_and, and_true, cKill_o, rKill_o]); try omega)
                                                       refine inv_eq s6 ?_ ?_
                                                       · repeat (first | exact Ceq.rf | refine Ceq.lg ?_ | refine Ceq.rg ?_ | refine Ceq.lk ?_ | refine Ceq.rk ?_ | refine Ceq.lr ?_ | refine Ceq.rr ?_ | refine Ceq.give ?_ (by omega) (by omega) | refine Ceq.kill ?_ (by omega) (by omega) | refine Ceq.set ?_ (by omega) (by omega) (by first | rfl | omega | exact congrArg w32 (by omega)))
                                                       · simp (disch := first | omega | (simp (disch := omega) only [jset_k, jset_j, jset_same, true_and, and_true, cKill_o, rKill_o]; omega)) only [rGive_929, rKill_929, jset_929, cGive_hi, cKill_hi, cEnter_hi, jset_row]
                                                         repeat (first | rfl | refine aGive_cong ?_ (by omega) (by omega) | refine aKill_cong ?_ (by omega) (by omega) | refine rset_cong ?_ (by omega) (by first | rfl | omega | exact congrArg w32 (by omega)))))
                                            · first
                                               | (exfalso; omega)
                                               | (skip
                                                  refine e_iconst 194 dX12_sale_193 rfl ?_
                                                  refine e_iload_n (i := 2) 195 dX12_sale_194 rfl rfl rfl ?_
                                                  refine e_imul 196 dX12_sale_195 rfl ?_
                                                  refine e_iload_n (i := 3) 197 dX12_sale_196 rfl rfl rfl ?_
                                                  refine e_isub 198 dX12_sale_197 rfl ?_
                                                  refine e_goto 202 dX12_sale_198 (by decide) ?_
                                                  refine e_iast 203 dX12_sale_202 ar_929 (by omega) (by omega) (by omega) rfl ?_
                                                  refine e_aload_n (i := 0) 204 dX12_sale_203 rfl rfl rfl ?_
                                                  refine e_iload_n (i := 1) 205 dX12_sale_204 rfl rfl rfl ?_
                                                  refine e_iconst 206 dX12_sale_205 rfl ?_
                                                  refine e_callV 209 mt_yX12_leaves mv_yX12_leaves wd_1563 (by decide) dX12_sale_206 at_928 jc_12 rfl rfl rfl (Nat.le_of_ble_eq_true rfl) (jroom (by decide)) rfl (m_leaves (by omega) (by decide) (by (try simp (disch := omega) only [jset_k, jset_j, jset_same, true_and, and_true, hA, rKill_o]); omega) ?_)
                                                  dsimp only [jpush]
                                                  refine e_iconst 210 dX12_sale_209 rfl ?_
                                                  refine e_iload_n (i := 2) 211 dX12_sale_210 rfl rfl rfl ?_
                                                  refine e_imul 212 dX12_sale_211 rfl ?_
                                                  refine e_iload_n (i := 3) 213 dX12_sale_212 rfl rfl rfl ?_
                                                  refine e_isub 214 dX12_sale_213 rfl ?_
                                                  refine e_iret dX12_sale_214 ?_
                                                  first
                                                    | (exact ⟨by omega, hI⟩)
                                                    | (exfalso; omega)
                                                    | ((try subst hM1)
                                                       refine ⟨by first | omega | exact congrArg tkNum (by omega), ?_⟩
                                                       have s1 := step_book2 hI (b := 1) (w := M 929 708) (o := 2083) (v := w32 (M 929 (2083 + M 929 708) + min (max (2 * price - 2 * M 929 (830 + pledge)) 0) (rI (M 929) pledge))) (by omega) (by omega) (by omega) rfl
                                                       have s2 := step_book2 s1 (b := 4) (w := M 929 708) (o := 2986) (v := w32 (M 929 (2986 + M 929 708) + 1)) (by omega) (by omega) (by omega) rfl
                                                       have s3 := step_book2 s2 (b := 5) (w := M 929 708) (o := 3287) (v := w32 (M 929 (3287 + M 929 708) + min (2 * price) (2 * M 929 (830 + pledge) + rI (M 929) pledge))) (by omega) (by omega) (by omega) rfl
                                                       have s4 := step_over s3 (p := pledge) (v := max (2 * price - (2 * M 929 (830 + pledge) + rI (M 929) pledge)) 0) (by (try simp (disch := omega) only [jset_k, jset_j, jset_same, true_and, and_true, cKill_o, rKill_o]); try omega) rfl
                                                       have s5 := step_left2 s4 (p := pledge) (by (try simp (disch := omega) only [jset_k, jset_j, jset_same, true_and, and_true, cKill_o, rKill_o]); try omega)
                                                       simp (disch := omega) only [jset_k (k' := 929) (j' := 708), jset_j (j' := 708)] at s5
                                                       have s6 := step_kill s5 (p := pledge) (n := M 929 1310) (n2 := M 929 1310) (by (try simp (disch := omega) only [jset_k, jset_j, jset_same, true_and, and_true, cKill_o, rKill_o]); try omega) (by (try simp (disch := omega) only [jset_k, jset_j, jset_same, true_and, and_true, cKill_o, rKill_o]); try omega)
                                                       refine inv_eq s6 ?_ ?_
                                                       · repeat (first | exact Ceq.rf | refine Ceq.lg ?_ | refine Ceq.rg ?_ | refine Ceq.lk ?_ | refine Ceq.rk ?_ | refine Ceq.lr ?_ | refine Ceq.rr ?_ | refine Ceq.give ?_ (by omega) (by omega) | refine Ceq.kill ?_ (by omega) (by omega) | refine Ceq.set ?_ (by omega) (by omega) (by first | rfl | omega | exact congrArg w32 (by omega)))
                                                       · simp (disch := first | omega | (simp (disch := omega) only [jset_k, jset_j, jset_same, true_and, and_true, cKill_o, rKill_o]; omega)) only [rGive_929, rKill_929, jset_929, cGive_hi, cKill_hi, cEnter_hi, jset_row]
                                                         repeat (first | rfl | refine aGive_cong ?_ (by omega) (by omega) | refine aKill_cong ?_ (by omega) (by omega) | refine rset_cong ?_ (by omega) (by first | rfl | omega | exact congrArg w32 (by omega))))))
                                      · first
                                         | (exfalso; omega)
                                         | (skip
                                            refine e_iconst 169 dX12_sale_168 rfl ?_
                                            refine e_iload_n (i := 2) 170 dX12_sale_169 rfl rfl rfl ?_
                                            refine e_imul 171 dX12_sale_170 rfl ?_
                                            refine e_goto 175 dX12_sale_171 (by decide) ?_
                                            refine e_iadd 176 dX12_sale_175 rfl ?_
                                            refine e_iastw 177 dX12_sale_176 ar_929 (by omega) (by omega) rfl ?_
                                            refine e_aload_n (i := 0) 178 dX12_sale_177 rfl rfl rfl ?_
                                            refine e_getr (j := 1) 181 fl_12_13 dX12_sale_178 at_928 rfl rfl tp_928_1 rfl ?_
                                            refine e_sipush 184 dX12_sale_181 (by decide) rfl ?_
                                            refine e_iload_n (i := 1) 185 dX12_sale_184 rfl rfl rfl ?_
                                            refine e_iadd 186 dX12_sale_185 rfl ?_
                                            refine e_iconst 187 dX12_sale_186 rfl ?_
                                            refine e_iload_n (i := 2) 188 dX12_sale_187 rfl rfl rfl ?_
                                            refine e_imul 189 dX12_sale_188 rfl ?_
                                            refine e_iload_n (i := 3) 190 dX12_sale_189 rfl rfl rfl ?_
                                            refine e_icmp_le 193 201 dX12_sale_190 (by omega) (by omega) (by decide) rfl (fun b190 => ?_) (fun b190 => ?_)
                                            · first
                                               | (exfalso; omega)
                                               | (skip
                                                  refine e_iconst 202 dX12_sale_201 rfl ?_
                                                  refine e_iast 203 dX12_sale_202 ar_929 (by omega) (by omega) (by decide) rfl ?_
                                                  refine e_aload_n (i := 0) 204 dX12_sale_203 rfl rfl rfl ?_
                                                  refine e_iload_n (i := 1) 205 dX12_sale_204 rfl rfl rfl ?_
                                                  refine e_iconst 206 dX12_sale_205 rfl ?_
                                                  refine e_callV 209 mt_yX12_leaves mv_yX12_leaves wd_1563 (by decide) dX12_sale_206 at_928 jc_12 rfl rfl rfl (Nat.le_of_ble_eq_true rfl) (jroom (by decide)) rfl (m_leaves (by omega) (by decide) (by (try simp (disch := omega) only [jset_k, jset_j, jset_same, true_and, and_true, hA, rKill_o]); omega) ?_)
                                                  dsimp only [jpush]
                                                  refine e_iconst 210 dX12_sale_209 rfl ?_
                                                  refine e_iload_n (i := 2) 211 dX12_sale_210 rfl rfl rfl ?_
                                                  refine e_imul 212 dX12_sale_211 rfl ?_
                                                  refine e_iload_n (i := 3) 213 dX12_sale_212 rfl rfl rfl ?_
                                                  refine e_isub 214 dX12_sale_213 rfl ?_
                                                  refine e_iret dX12_sale_214 ?_
                                                  first
                                                    | (exact ⟨by omega, hI⟩)
                                                    | (exfalso; omega)
                                                    | ((try subst hM1)
                                                       refine ⟨by first | omega | exact congrArg tkNum (by omega), ?_⟩
                                                       have s1 := step_book2 hI (b := 1) (w := M 929 708) (o := 2083) (v := w32 (M 929 (2083 + M 929 708) + min (max (2 * price - 2 * M 929 (830 + pledge)) 0) (rI (M 929) pledge))) (by omega) (by omega) (by omega) rfl
                                                       have s2 := step_book2 s1 (b := 4) (w := M 929 708) (o := 2986) (v := w32 (M 929 (2986 + M 929 708) + 1)) (by omega) (by omega) (by omega) rfl
                                                       have s3 := step_book2 s2 (b := 5) (w := M 929 708) (o := 3287) (v := w32 (M 929 (3287 + M 929 708) + min (2 * price) (2 * M 929 (830 + pledge) + rI (M 929) pledge))) (by omega) (by omega) (by omega) rfl
                                                       have s4 := step_over s3 (p := pledge) (v := max (2 * price - (2 * M 929 (830 + pledge) + rI (M 929) pledge)) 0) (by (try simp (disch := omega) only [jset_k, jset_j, jset_same, true_and, and_true, cKill_o, rKill_o]); try omega) rfl
                                                       have s5 := step_left2 s4 (p := pledge) (by (try simp (disch := omega) only [jset_k, jset_j, jset_same, true_and, and_true, cKill_o, rKill_o]); try omega)
                                                       simp (disch := omega) only [jset_k (k' := 929) (j' := 708), jset_j (j' := 708)] at s5
                                                       have s6 := step_kill s5 (p := pledge) (n := M 929 1310) (n2 := M 929 1310) (by (try simp (disch := omega) only [jset_k, jset_j, jset_same, true_and, and_true, cKill_o, rKill_o]); try omega) (by (try simp (disch := omega) only [jset_k, jset_j, jset_same, true_and, and_true, cKill_o, rKill_o]); try omega)
                                                       refine inv_eq s6 ?_ ?_
                                                       · repeat (first | exact Ceq.rf | refine Ceq.lg ?_ | refine Ceq.rg ?_ | refine Ceq.lk ?_ | refine Ceq.rk ?_ | refine Ceq.lr ?_ | refine Ceq.rr ?_ | refine Ceq.give ?_ (by omega) (by omega) | refine Ceq.kill ?_ (by omega) (by omega) | refine Ceq.set ?_ (by omega) (by omega) (by first | rfl | omega | exact congrArg w32 (by omega)))
                                                       · simp (disch := first | omega | (simp (disch := omega) only [jset_k, jset_j, jset_same, true_and, and_true, cKill_o, rKill_o]; omega)) only [rGive_929, rKill_929, jset_929, cGive_hi, cKill_hi, cEnter_hi, jset_row]
                                                         repeat (first | rfl | refine aGive_cong ?_ (by omega) (by omega) | refine aKill_cong ?_ (by omega) (by omega) | refine rset_cong ?_ (by omega) (by first | rfl | omega | exact congrArg w32 (by omega)))))
                                            · first
                                               | (exfalso; omega)
                                               | (skip
                                                  refine e_iconst 194 dX12_sale_193 rfl ?_
                                                  refine e_iload_n (i := 2) 195 dX12_sale_194 rfl rfl rfl ?_
                                                  refine e_imul 196 dX12_sale_195 rfl ?_
                                                  refine e_iload_n (i := 3) 197 dX12_sale_196 rfl rfl rfl ?_
                                                  refine e_isub 198 dX12_sale_197 rfl ?_
                                                  refine e_goto 202 dX12_sale_198 (by decide) ?_
                                                  refine e_iast 203 dX12_sale_202 ar_929 (by omega) (by omega) (by omega) rfl ?_
                                                  refine e_aload_n (i := 0) 204 dX12_sale_203 rfl rfl rfl ?_
                                                  refine e_iload_n (i := 1) 205 dX12_sale_204 rfl rfl rfl ?_
                                                  refine e_iconst 206 dX12_sale_205 rfl ?_
                                                  refine e_callV 209 mt_yX12_leaves mv_yX12_leaves wd_1563 (by decide) dX12_sale_206 at_928 jc_12 rfl rfl rfl (Nat.le_of_ble_eq_true rfl) (jroom (by decide)) rfl (m_leaves (by omega) (by decide) (by (try simp (disch := omega) only [jset_k, jset_j, jset_same, true_and, and_true, hA, rKill_o]); omega) ?_)
                                                  dsimp only [jpush]
                                                  refine e_iconst 210 dX12_sale_209 rfl ?_
                                                  refine e_iload_n (i := 2) 211 dX12_sale_210 rfl rfl rfl ?_
                                                  refine e_imul 212 dX12_sale_211 rfl ?_
                                                  refine e_iload_n (i := 3) 213 dX12_sale_212 rfl rfl rfl ?_
                                                  refine e_isub 214 dX12_sale_213 rfl ?_
                                                  refine e_iret dX12_sale_214 ?_
                                                  first
                                                    | (exact ⟨by omega, hI⟩)
                                                    | (exfalso; omega)
                                                    | ((try subst hM1)
                                                       refine ⟨by first | omega | exact congrArg tkNum (by omega), ?_⟩
                                                       have s1 := step_book2 hI (b := 1) (w := M 929 708) (o := 2083) (v := w32 (M 929 (2083 + M 929 708) + min (max (2 * price - 2 * M 929 (830 + pledge)) 0) (rI (M 929) pledge))) (by omega) (by omega) (by omega) rfl
                                                       have s2 := step_book2 s1 (b := 4) (w := M 929 708) (o := 2986) (v := w32 (M 929 (2986 + M 929 708) + 1)) (by omega) (by omega) (by omega) rfl
                                                       have s3 := step_book2 s2 (b := 5) (w := M 929 708) (o := 3287) (v := w32 (M 929 (3287 + M 929 708) + min (2 * price) (2 * M 929 (830 + pledge) + rI (M 929) pledge))) (by omega) (by omega) (by omega) rfl
                                                       have s4 := step_over s3 (p := pledge) (v := max (2 * price - (2 * M 929 (830 + pledge) + rI (M 929) pledge)) 0) (by (try simp (disch := omega) only [jset_k, jset_j, jset_same, true_and, and_true, cKill_o, rKill_o]); try omega) rfl
                                                       have s5 := step_left2 s4 (p := pledge) (by (try simp (disch := omega) only [jset_k, jset_j, jset_same, true_and, and_true, cKill_o, rKill_o]); try omega)
                                                       simp (disch := omega) only [jset_k (k' := 929) (j' := 708), jset_j (j' := 708)] at s5
                                                       have s6 := step_kill s5 (p := pledge) (n := M 929 1310) (n2 := M 929 1310) (by (try simp (disch := omega) only [jset_k, jset_j, jset_same, true_and, and_true, cKill_o, rKill_o]); try omega) (by (try simp (disch := omega) only [jset_k, jset_j, jset_same, true_and, and_true, cKill_o, rKill_o]); try omega)
                                                       refine inv_eq s6 ?_ ?_
                                                       · repeat (first | exact Ceq.rf | refine Ceq.lg ?_ | refine Ceq.rg ?_ | refine Ceq.lk ?_ | refine Ceq.rk ?_ | refine Ceq.lr ?_ | refine Ceq.rr ?_ | refine Ceq.give ?_ (by omega) (by omega) | refine Ceq.kill ?_ (by omega) (by omega) | refine Ceq.set ?_ (by omega) (by omega) (by first | rfl | omega | exact congrArg w32 (by omega)))
                                                       · simp (disch := first | omega | (simp (disch := omega) only [jset_k, jset_j, jset_same, true_and, and_true, cKill_o, rKill_o]; omega)) only [rGive_929, rKill_929, jset_929, cGive_hi, cKill_hi, cEnter_hi, jset_row]
                                                         repeat (first | rfl | refine aGive_cong ?_ (by omega) (by omega) | refine aKill_cong ?_ (by omega) (by omega) | refine rset_cong ?_ (by omega) (by first | rfl | omega | exact congrArg w32 (by omega))))))))
                          · dsimp only [jpush]
                            first
                             | (exfalso; omega)
                             | (skip
                                refine e_if_ne 41 44 dX12_sale_38 (by decide) (by decide) rfl (fun h => absurd h (by decide)) (fun _ => ?_)
                                refine e_ldc (z := (-1000000)) 43 (ix := 218) wd_1510 (by decide) dX12_sale_41 rfl ?_
                                refine e_iret dX12_sale_43 ?_
                                first
                                  | (exact ⟨by omega, hI⟩)
                                  | (exfalso; omega))))
              · dsimp only [jpush]
                first
                 | (exfalso; omega)
                 | (skip
                    refine e_if_eq 21 41 dX12_sale_18 (by decide) (by decide) rfl (fun _ => ?_) (fun h => absurd h (by decide))
                    refine e_ldc (z := (-1000000)) 43 (ix := 218) wd_1510 (by decide) dX12_sale_41 rfl ?_
                    refine e_iret dX12_sale_43 ?_
                    first
                      | (exact ⟨by omega, hI⟩)
                      | (exfalso; omega)))
        · dsimp only [jpush]
          first
           | (exfalso; omega)
           | (skip
              refine e_if_eq 13 41 dX12_sale_10 (by decide) (by decide) rfl (fun _ => ?_) (fun h => absurd h (by decide))
              refine e_ldc (z := (-1000000)) 43 (ix := 218) wd_1510 (by decide) dX12_sale_41 rfl ?_
              refine e_iret dX12_sale_43 ?_
              first
                | (exact ⟨by omega, hI⟩)
                | (exfalso; omega))
  · dsimp only [jpush]
    (try simp (disch := omega) only [jset_k, jset_j, jset_same, true_and, and_true, cKill_o, rKill_o, cEnter, cLeave_1, cLeave_2, rLeave, iOf_set])
    refine e_if_eq 11 41 dX11_sale_8 (by decide) (by decide) rfl (fun _ => ?_) (fun h => absurd h (by decide))
    refine e_ldc (z := (-1000000)) 43 (ix := 173) wd_765 (by decide) dX11_sale_41 rfl ?_
    refine e_iret dX11_sale_43 ?_
    refine jCt_of mt_yX12_sale (Nat.le_of_ble_eq_true rfl) (fun X2 => ?_)
    refine e_aload_n (i := 0) 1 dX12_sale_0 rfl rfl rfl ?_
    refine e_iconst 2 dX12_sale_1 rfl ?_
    refine e_put0 (j := 0) 5 fl_12_1 dX12_sale_2 at_928 rfl rfl rfl (by decide) hI.1 rfl ?_
    refine e_aload_n (i := 0) 6 dX12_sale_5 rfl rfl rfl ?_
    refine e_iload_n (i := 1) 7 dX12_sale_6 rfl rfl rfl ?_
    refine e_callV 10 mt_yX12_isPledge mv_yX12_isPledge wd_1579 (by decide) dX12_sale_7 at_928 jc_12 rfl rfl rfl (Nat.le_of_ble_eq_true rfl) (jroom (by decide)) rfl (m_isPledge (by omega) (fun w7 => ?_) (fun w7 => ?_))
    · dsimp only [jpush]
      first
       | (exfalso; omega)
       | (skip
          refine e_if_eq 13 41 dX12_sale_10 (by decide) (by decide) rfl (fun h => absurd h (by decide)) (fun _ => ?_)
          refine e_aload_n (i := 0) 14 dX12_sale_13 rfl rfl rfl ?_
          refine e_iload_n (i := 1) 15 dX12_sale_14 rfl rfl rfl ?_
          refine e_callV 18 mt_yX12_isPassed mv_yX12_isPassed wd_1603 (by decide) dX12_sale_15 at_928 jc_12 rfl rfl rfl (Nat.le_of_ble_eq_true rfl) (jroom (by decide)) rfl (m_isPassed (by omega) (by first | (have := hC.plr (p := pledge) (by omega) (by omega); omega) | (simp only [hA]; have := hC.plr (p := pledge) (by omega) (by omega); omega)) (fun w15 => ?_) (fun w15 => ?_))
          · dsimp only [jpush]
            first
             | (exfalso; omega)
             | (skip
                refine e_if_eq 21 41 dX12_sale_18 (by decide) (by decide) rfl (fun h => absurd h (by decide)) (fun _ => ?_)
                refine e_aload_n (i := 0) 22 dX12_sale_21 rfl rfl rfl ?_
                refine e_iload_n (i := 1) 23 dX12_sale_22 rfl rfl rfl ?_
                refine e_callV 26 mt_yX12_isHeld mv_yX12_isHeld wd_1559 (by decide) dX12_sale_23 at_928 jc_12 rfl rfl rfl (Nat.le_of_ble_eq_true rfl) (jroom (by decide)) rfl (m_isHeld (by omega) (fun w23 => ?_) (fun w23 => ?_))
                · dsimp only [jpush]
                  first
                   | (exfalso; omega)
                   | (skip
                      refine e_if_ne 29 41 dX12_sale_26 (by decide) (by decide) rfl (fun _ => ?_) (fun h => absurd h (by decide))
                      refine e_ldc (z := (-1000000)) 43 (ix := 218) wd_1510 (by decide) dX12_sale_41 rfl ?_
                      refine e_iret dX12_sale_43 ?_
                      first
                        | (exact ⟨by omega, hI⟩)
                        | (exfalso; omega))
                · dsimp only [jpush]
                  first
                   | (exfalso; omega)
                   | (skip
                      refine e_if_ne 29 41 dX12_sale_26 (by decide) (by decide) rfl (fun h => absurd h (by decide)) (fun _ => ?_)
                      refine e_iload_n (i := 2) 30 dX12_sale_29 rfl rfl rfl ?_
                      refine e_i2l 31 dX12_sale_30 (by omega) rfl ?_
                      refine e_lconst0 32 dX12_sale_31 rfl ?_
                      refine e_ldc2 (z := (9999)) 35 (ix := 213) wd_1501 (by decide) dX12_sale_32 rfl ?_
                      refine e_callS 38 mt_yX12_within ms_yX12_within wd_1390 (by decide) dX12_sale_35 rfl rfl (Nat.le_of_ble_eq_true rfl) (jroom (by decide)) rfl (m_within (by omega) (by omega) (by omega) (fun w35 => ?_) (fun w35 => ?_))
                      · dsimp only [jpush]
                        first
                         | (exfalso; omega)
                         | (skip
                            refine e_if_ne 41 44 dX12_sale_38 (by decide) (by decide) rfl (fun _ => ?_) (fun h => absurd h (by decide))
                            refine e_aload_n (i := 0) 45 dX12_sale_44 rfl rfl rfl ?_
                            refine e_iload_n (i := 1) 46 dX12_sale_45 rfl rfl rfl ?_
                            refine e_callV 49 mt_yX12_dueOf mv_yX12_dueOf wd_1547 (by decide) dX12_sale_46 at_928 jc_12 rfl rfl rfl (Nat.le_of_ble_eq_true rfl) (jroom (by decide)) rfl (m_dueOf (by first | exact hC.1.okP (by omega) (by omega) | (rw [hA]; exact hC.1.okP (by omega) (by omega))) ?_)
                            dsimp only [jpush]
                            refine e_istore_n (i := 3) (lsn := [(3, _), (0, _), (1, _), (2, _)]) 50 dX12_sale_49 rfl (by decide) rfl rfl ?_
                            refine e_aload_n (i := 0) 51 dX12_sale_50 rfl rfl rfl ?_
                            refine e_iload_n (i := 1) 52 dX12_sale_51 rfl rfl rfl ?_
                            refine e_callV 55 mt_yX12_interestOf mv_yX12_interestOf wd_1551 (by decide) dX12_sale_52 at_928 jc_12 rfl rfl rfl (Nat.le_of_ble_eq_true rfl) (jroom (by decide)) rfl (m_interestOf (by first | exact hC.1.okP (by omega) (by omega) | (rw [hA]; exact hC.1.okP (by omega) (by omega))) ?_)
                            dsimp only [jpush]
                            refine e_istore (lsn := [(4, _), (3, _), (0, _), (1, _), (2, _)]) 57 dX12_sale_55 (by decide) rfl rfl ?_
                            refine e_iconst 58 dX12_sale_57 rfl ?_
                            refine e_iload_n (i := 2) 59 dX12_sale_58 rfl rfl rfl ?_
                            refine e_imul 60 dX12_sale_59 rfl ?_
                            refine e_iconst 61 dX12_sale_60 rfl ?_
                            refine e_aload_n (i := 0) 62 dX12_sale_61 rfl rfl rfl ?_
                            refine e_getr (j := 1) 65 fl_12_13 dX12_sale_62 at_928 rfl rfl tp_928_1 rfl ?_
                            refine e_sipush 68 dX12_sale_65 (by decide) rfl ?_
                            refine e_iload_n (i := 1) 69 dX12_sale_68 rfl rfl rfl ?_
                            refine e_iadd 70 dX12_sale_69 rfl ?_
                            refine e_iald 71 dX12_sale_70 ar_929 (by omega) (by omega) rfl (fun r70 => ?_)
                            refine e_imul 72 dX12_sale_71 rfl ?_
                            refine e_isub 73 dX12_sale_72 rfl ?_
                            refine e_istore (lsn := [(5, _), (4, _), (3, _), (0, _), (1, _), (2, _)]) 75 dX12_sale_73 (by decide) rfl rfl ?_
                            refine e_iload 77 dX12_sale_75 rfl rfl ?_
                            refine e_if_ge 80 84 dX12_sale_77 (by omega) (by decide) rfl (fun b77 => ?_) (fun b77 => ?_)
                            · first
                               | (exfalso; omega)
                               | (skip
                                  refine e_iload 86 dX12_sale_84 rfl rfl ?_
                                  refine e_iload 88 dX12_sale_86 rfl rfl ?_
                                  refine e_icmp_le 91 96 dX12_sale_88 (by omega) (by omega) (by decide) rfl (fun b88 => ?_) (fun b88 => ?_)
                                  · first
                                     | (exfalso; omega)
                                     | (skip
                                        refine e_iload 98 dX12_sale_96 rfl rfl ?_
                                        refine e_istore (lsn := [(5, _), (4, _), (3, _), (0, _), (1, _), (2, _)]) 100 dX12_sale_98 (by decide) rfl rfl ?_
                                        refine e_aload_n (i := 0) 101 dX12_sale_100 rfl rfl rfl ?_
                                        refine e_getr (j := 1) 104 fl_12_13 dX12_sale_101 at_928 rfl rfl tp_928_1 rfl ?_
                                        refine e_sipush 107 dX12_sale_104 (by decide) rfl ?_
                                        refine e_aload_n (i := 0) 108 dX12_sale_107 rfl rfl rfl ?_
                                        refine e_getr (j := 1) 111 fl_12_13 dX12_sale_108 at_928 rfl rfl tp_928_1 rfl ?_
                                        refine e_sipush 114 dX12_sale_111 (by decide) rfl ?_
                                        refine e_iald 115 dX12_sale_114 ar_929 (by decide) (by decide) rfl (fun r114 => ?_)
                                        refine e_iadd 116 dX12_sale_115 rfl ?_
                                        refine e_dup2 117 dX12_sale_116 rfl rfl rfl ?_
                                        refine e_iald 118 dX12_sale_117 ar_929 (by omega) (by omega) rfl (fun r117 => ?_)
                                        refine e_iload 120 dX12_sale_118 rfl rfl ?_
                                        refine e_iadd 121 dX12_sale_120 rfl ?_
                                        refine e_iastw 122 dX12_sale_121 ar_929 (by omega) (by omega) rfl ?_
                                        refine e_aload_n (i := 0) 123 dX12_sale_122 rfl rfl rfl ?_
                                        refine e_getr (j := 1) 126 fl_12_13 dX12_sale_123 at_928 rfl rfl tp_928_1 rfl ?_
                                        refine e_sipush 129 dX12_sale_126 (by decide) rfl ?_
                                        refine e_aload_n (i := 0) 130 dX12_sale_129 rfl rfl rfl ?_
                                        refine e_getr (j := 1) 133 fl_12_13 dX12_sale_130 at_928 rfl rfl tp_928_1 rfl ?_
                                        refine e_sipush 136 dX12_sale_133 (by decide) rfl ?_
                                        refine e_iald 137 dX12_sale_136 ar_929 (by decide) (by decide) rfl (fun r136 => ?_)
                                        simp (disch := omega) only [jset_k, jset_j, jset_same, true_and, and_true] at r136 ⊢
                                        refine e_iadd 138 dX12_sale_137 rfl ?_
                                        refine e_dup2 139 dX12_sale_138 rfl rfl rfl ?_
                                        refine e_iald 140 dX12_sale_139 ar_929 (by omega) (by omega) rfl (fun r139 => ?_)
                                        simp (disch := omega) only [jset_k, jset_j, jset_same, true_and, and_true] at r139 ⊢
                                        refine e_iconst 141 dX12_sale_140 rfl ?_
                                        refine e_iadd 142 dX12_sale_141 rfl ?_
                                        refine e_iastw 143 dX12_sale_142 ar_929 (by omega) (by omega) rfl ?_
                                        refine e_aload_n (i := 0) 144 dX12_sale_143 rfl rfl rfl ?_
                                        refine e_getr (j := 1) 147 fl_12_13 dX12_sale_144 at_928 rfl rfl tp_928_1 rfl ?_
                                        refine e_sipush 150 dX12_sale_147 (by decide) rfl ?_
                                        refine e_aload_n (i := 0) 151 dX12_sale_150 rfl rfl rfl ?_
                                        refine e_getr (j := 1) 154 fl_12_13 dX12_sale_151 at_928 rfl rfl tp_928_1 rfl ?_
                                        refine e_sipush 157 dX12_sale_154 (by decide) rfl ?_
                                        refine e_iald 158 dX12_sale_157 ar_929 (by decide) (by decide) rfl (fun r157 => ?_)
                                        simp (disch := omega) only [jset_k, jset_j, jset_same, true_and, and_true] at r157 ⊢
                                        refine e_iadd 159 dX12_sale_158 rfl ?_
                                        refine e_dup2 160 dX12_sale_159 rfl rfl rfl ?_
                                        refine e_iald 161 dX12_sale_160 ar_929 (by omega) (by omega) rfl (fun r160 => ?_)
                                        simp (disch := omega) only [jset_k, jset_j, jset_same, true_and, and_true] at r160 ⊢
                                        refine e_iconst 162 dX12_sale_161 rfl ?_
                                        refine e_iload_n (i := 2) 163 dX12_sale_162 rfl rfl rfl ?_
                                        refine e_imul 164 dX12_sale_163 rfl ?_
                                        refine e_iload_n (i := 3) 165 dX12_sale_164 rfl rfl rfl ?_
                                        refine e_icmp_ge 168 174 dX12_sale_165 (by omega) (by omega) (by decide) rfl (fun b165 => ?_) (fun b165 => ?_)
                                        · first
                                           | (exfalso; omega)
                                           | (skip
                                              refine e_iload_n (i := 3) 175 dX12_sale_174 rfl rfl rfl ?_
                                              refine e_iadd 176 dX12_sale_175 rfl ?_
                                              refine e_iastw 177 dX12_sale_176 ar_929 (by omega) (by omega) rfl ?_
                                              refine e_aload_n (i := 0) 178 dX12_sale_177 rfl rfl rfl ?_
                                              refine e_getr (j := 1) 181 fl_12_13 dX12_sale_178 at_928 rfl rfl tp_928_1 rfl ?_
                                              refine e_sipush 184 dX12_sale_181 (by decide) rfl ?_
                                              refine e_iload_n (i := 1) 185 dX12_sale_184 rfl rfl rfl ?_
                                              refine e_iadd 186 dX12_sale_185 rfl ?_
                                              refine e_iconst 187 dX12_sale_186 rfl ?_
                                              refine e_iload_n (i := 2) 188 dX12_sale_187 rfl rfl rfl ?_
                                              refine e_imul 189 dX12_sale_188 rfl ?_
                                              refine e_iload_n (i := 3) 190 dX12_sale_189 rfl rfl rfl ?_
                                              refine e_icmp_le 193 201 dX12_sale_190 (by omega) (by omega) (by decide) rfl (fun b190 => ?_) (fun b190 => ?_)
                                              · first
                                                 | (exfalso; omega)
                                                 | (skip
                                                    refine e_iconst 202 dX12_sale_201 rfl ?_
                                                    refine e_iast 203 dX12_sale_202 ar_929 (by omega) (by omega) (by decide) rfl ?_
                                                    refine e_aload_n (i := 0) 204 dX12_sale_203 rfl rfl rfl ?_
                                                    refine e_iload_n (i := 1) 205 dX12_sale_204 rfl rfl rfl ?_
                                                    refine e_iconst 206 dX12_sale_205 rfl ?_
                                                    refine e_callV 209 mt_yX12_leaves mv_yX12_leaves wd_1563 (by decide) dX12_sale_206 at_928 jc_12 rfl rfl rfl (Nat.le_of_ble_eq_true rfl) (jroom (by decide)) rfl (m_leaves (by omega) (by decide) (by (try simp (disch := omega) only [jset_k, jset_j, jset_same, true_and, and_true, hA, rKill_o]); omega) ?_)
                                                    dsimp only [jpush]
                                                    refine e_iconst 210 dX12_sale_209 rfl ?_
                                                    refine e_iload_n (i := 2) 211 dX12_sale_210 rfl rfl rfl ?_
                                                    refine e_imul 212 dX12_sale_211 rfl ?_
                                                    refine e_iload_n (i := 3) 213 dX12_sale_212 rfl rfl rfl ?_
                                                    refine e_isub 214 dX12_sale_213 rfl ?_
                                                    refine e_iret dX12_sale_214 ?_
                                                    first
                                                      | (exact ⟨by omega, hI⟩)
                                                      | (exfalso; omega)
                                                      | ((try subst hM1)
                                                         refine ⟨by first | omega | exact congrArg tkNum (by omega), ?_⟩
                                                         have s1 := step_book2 hI (b := 1) (w := M 929 708) (o := 2083) (v := w32 (M 929 (2083 + M 929 708) + min (max (2 * price - 2 * M 929 (830 + pledge)) 0) (rI (M 929) pledge))) (by omega) (by omega) (by omega) rfl
                                                         have s2 := step_book2 s1 (b := 4) (w := M 929 708) (o := 2986) (v := w32 (M 929 (2986 + M 929 708) + 1)) (by omega) (by omega) (by omega) rfl
                                                         have s3 := step_book2 s2 (b := 5) (w := M 929 708) (o := 3287) (v := w32 (M 929 (3287 + M 929 708) + min (2 * price) (2 * M 929 (830 + pledge) + rI (M 929) pledge))) (by omega) (by omega) (by omega) rfl
                                                         have s4 := step_over s3 (p := pledge) (v := max (2 * price - (2 * M 929 (830 + pledge) + rI (M 929) pledge)) 0) (by (try simp (disch := omega) only [jset_k, jset_j, jset_same, true_and, and_true, cKill_o, rKill_o]); try omega) rfl
                                                         have s5 := step_left2 s4 (p := pledge) (by (try simp (disch := omega) only [jset_k, jset_j, jset_same, true_and, and_true, cKill_o, rKill_o]); try omega)
                                                         simp (disch := omega) only [jset_k (k' := 929) (j' := 708), jset_j (j' := 708)] at s5
                                                         have s6 := step_kill s5 (p := pledge) (n := M 929 1310) (n2 := M 929 1310) (by (try simp (disch := omega) only [jset_k, jset_j, jset_same, true_and, and_true, cKill_o, rKill_o]); try omega) (by (try simp (disch := omega) only [jset_k, jset_j, jset_same, true_and, and_true, cKill_o, rKill_o]); try omega)
                                                         refine inv_eq s6 ?_ ?_
                                                         · repeat (first | exact Ceq.rf | refine Ceq.lg ?_ | refine Ceq.rg ?_ | refine Ceq.lk ?_ | refine Ceq.rk ?_ | refine Ceq.lr ?_ | refine Ceq.rr ?_ | refine Ceq.give ?_ (by omega) (by omega) | refine Ceq.kill ?_ (by omega) (by omega) | refine Ceq.set ?_ (by omega) (by omega) (by first | rfl | omega | exact congrArg w32 (by omega)))
                                                         · simp (disch := first | omega | (simp (disch := omega) only [jset_k, jset_j, jset_same, true_and, and_true, cKill_o, rKill_o]; omega)) only [rGive_929, rKill_929, jset_929, cGive_hi, cKill_hi, cEnter_hi, jset_row]
                                                           repeat (first | rfl | refine aGive_cong ?_ (by omega) (by omega) | refine aKill_cong ?_ (by omega) (by omega) | refine rset_cong ?_ (by omega) (by first | rfl | omega | exact congrArg w32 (by omega)))))
                                              · first
                                                 | (exfalso; omega)
                                                 | (skip
                                                    refine e_iconst 194 dX12_sale_193 rfl ?_
                                                    refine e_iload_n (i := 2) 195 dX12_sale_194 rfl rfl rfl ?_
                                                    refine e_imul 196 dX12_sale_195 rfl ?_
                                                    refine e_iload_n (i := 3) 197 dX12_sale_196 rfl rfl rfl ?_
                                                    refine e_isub 198 dX12_sale_197 rfl ?_
                                                    refine e_goto 202 dX12_sale_198 (by decide) ?_
                                                    refine e_iast 203 dX12_sale_202 ar_929 (by omega) (by omega) (by omega) rfl ?_
                                                    refine e_aload_n (i := 0) 204 dX12_sale_203 rfl rfl rfl ?_
                                                    refine e_iload_n (i := 1) 205 dX12_sale_204 rfl rfl rfl ?_
                                                    refine e_iconst 206 dX12_sale_205 rfl ?_
                                                    refine e_callV 209 mt_yX12_leaves mv_yX12_leaves wd_1563 (by decide) dX12_sale_206 at_928 jc_12 rfl rfl rfl (Nat.le_of_ble_eq_true rfl) (jroom (by decide)) rfl (m_leaves (by omega) (by decide) (by (try simp (disch := omega) only [jset_k, jset_j, jset_same, true_and, and_true, hA, rKill_o]); omega) ?_)
                                                    dsimp only [jpush]
                                                    refine e_iconst 210 dX12_sale_209 rfl ?_
                                                    refine e_iload_n (i := 2) 211 dX12_sale_210 rfl rfl rfl ?_
                                                    refine e_imul 212 dX12_sale_211 rfl ?_
                                                    refine e_iload_n (i := 3) 213 dX12_sale_212 rfl rfl rfl ?_
                                                    refine e_isub 214 dX12_sale_213 rfl ?_
                                                    refine e_iret dX12_sale_214 ?_
                                                    first
                                                      | (exact ⟨by omega, hI⟩)
                                                      | (exfalso; omega)
                                                      | ((try subst hM1)
                                                         refine ⟨by first | omega | exact congrArg tkNum (by omega), ?_⟩
                                                         have s1 := step_book2 hI (b := 1) (w := M 929 708) (o := 2083) (v := w32 (M 929 (2083 + M 929 708) + min (max (2 * price - 2 * M 929 (830 + pledge)) 0) (rI (M 929) pledge))) (by omega) (by omega) (by omega) rfl
                                                         have s2 := step_book2 s1 (b := 4) (w := M 929 708) (o := 2986) (v := w32 (M 929 (2986 + M 929 708) + 1)) (by omega) (by omega) (by omega) rfl
                                                         have s3 := step_book2 s2 (b := 5) (w := M 929 708) (o := 3287) (v := w32 (M 929 (3287 + M 929 708) + min (2 * price) (2 * M 929 (830 + pledge) + rI (M 929) pledge))) (by omega) (by omega) (by omega) rfl
                                                         have s4 := step_over s3 (p := pledge) (v := max (2 * price - (2 * M 929 (830 + pledge) + rI (M 929) pledge)) 0) (by (try simp (disch := omega) only [jset_k, jset_j, jset_same, true_and, and_true, cKill_o, rKill_o]); try omega) rfl
                                                         have s5 := step_left2 s4 (p := pledge) (by (try simp (disch := omega) only [jset_k, jset_j, jset_same, true_and, and_true, cKill_o, rKill_o]); try omega)
                                                         simp (disch := omega) only [jset_k (k' := 929) (j' := 708), jset_j (j' := 708)] at s5
                                                         have s6 := step_kill s5 (p := pledge) (n := M 929 1310) (n2 := M 929 1310) (by (try simp (disch := omega) only [jset_k, jset_j, jset_same, true_and, and_true, cKill_o, rKill_o]); try omega) (by (try simp (disch := omega) only [jset_k, jset_j, jset_same, true_and, and_true, cKill_o, rKill_o]); try omega)
                                                         refine inv_eq s6 ?_ ?_
                                                         · repeat (first | exact Ceq.rf | refine Ceq.lg ?_ | refine Ceq.rg ?_ | refine Ceq.lk ?_ | refine Ceq.rk ?_ | refine Ceq.lr ?_ | refine Ceq.rr ?_ | refine Ceq.give ?_ (by omega) (by omega) | refine Ceq.kill ?_ (by omega) (by omega) | refine Ceq.set ?_ (by omega) (by omega) (by first | rfl | omega | exact congrArg w32 (by omega)))
                                                         · simp (disch := first | omega | (simp (disch := omega) only [jset_k, jset_j, jset_same, true_and, and_true, cKill_o, rKill_o]; omega)) only [rGive_929, rKill_929, jset_929, cGive_hi, cKill_hi, cEnter_hi, jset_row]
                                                           repeat (first | rfl | refine aGive_cong ?_ (by omega) (by omega) | refine aKill_cong ?_ (by omega) (by omega) | refine rset_cong ?_ (by omega) (by first | rfl | omega | exact congrArg w32 (by omega))))))
                                        · first
                                           | (exfalso; omega)
                                           | (skip
                                              refine e_iconst 169 dX12_sale_168 rfl ?_
                                              refine e_iload_n (i := 2) 170 dX12_sale_169 rfl rfl rfl ?_
                                              refine e_imul 171 dX12_sale_170 rfl ?_
                                              refine e_goto 175 dX12_sale_171 (by decide) ?_
                                              refine e_iadd 176 dX12_sale_175 rfl ?_
                                              refine e_iastw 177 dX12_sale_176 ar_929 (by omega) (by omega) rfl ?_
                                              refine e_aload_n (i := 0) 178 dX12_sale_177 rfl rfl rfl ?_
                                              refine e_getr (j := 1) 181 fl_12_13 dX12_sale_178 at_928 rfl rfl tp_928_1 rfl ?_
                                              refine e_sipush 184 dX12_sale_181 (by decide) rfl ?_
                                              refine e_iload_n (i := 1) 185 dX12_sale_184 rfl rfl rfl ?_
                                              refine e_iadd 186 dX12_sale_185 rfl ?_
                                              refine e_iconst 187 dX12_sale_186 rfl ?_
                                              refine e_iload_n (i := 2) 188 dX12_sale_187 rfl rfl rfl ?_
                                              refine e_imul 189 dX12_sale_188 rfl ?_
                                              refine e_iload_n (i := 3) 190 dX12_sale_189 rfl rfl rfl ?_
                                              refine e_icmp_le 193 201 dX12_sale_190 (by omega) (by omega) (by decide) rfl (fun b190 => ?_) (fun b190 => ?_)
                                              · first
                                                 | (exfalso; omega)
                                                 | (skip
                                                    refine e_iconst 202 dX12_sale_201 rfl ?_
                                                    refine e_iast 203 dX12_sale_202 ar_929 (by omega) (by omega) (by decide) rfl ?_
                                                    refine e_aload_n (i := 0) 204 dX12_sale_203 rfl rfl rfl ?_
                                                    refine e_iload_n (i := 1) 205 dX12_sale_204 rfl rfl rfl ?_
                                                    refine e_iconst 206 dX12_sale_205 rfl ?_
                                                    refine e_callV 209 mt_yX12_leaves mv_yX12_leaves wd_1563 (by decide) dX12_sale_206 at_928 jc_12 rfl rfl rfl (Nat.le_of_ble_eq_true rfl) (jroom (by decide)) rfl (m_leaves (by omega) (by decide) (by (try simp (disch := omega) only [jset_k, jset_j, jset_same, true_and, and_true, hA, rKill_o]); omega) ?_)
                                                    dsimp only [jpush]
                                                    refine e_iconst 210 dX12_sale_209 rfl ?_
                                                    refine e_iload_n (i := 2) 211 dX12_sale_210 rfl rfl rfl ?_
                                                    refine e_imul 212 dX12_sale_211 rfl ?_
                                                    refine e_iload_n (i := 3) 213 dX12_sale_212 rfl rfl rfl ?_
                                                    refine e_isub 214 dX12_sale_213 rfl ?_
                                                    refine e_iret dX12_sale_214 ?_
                                                    first
                                                      | (exact ⟨by omega, hI⟩)
                                                      | (exfalso; omega)
                                                      | ((try subst hM1)
                                                         refine ⟨by first | omega | exact congrArg tkNum (by omega), ?_⟩
                                                         have s1 := step_book2 hI (b := 1) (w := M 929 708) (o := 2083) (v := w32 (M 929 (2083 + M 929 708) + min (max (2 * price - 2 * M 929 (830 + pledge)) 0) (rI (M 929) pledge))) (by omega) (by omega) (by omega) rfl
                                                         have s2 := step_book2 s1 (b := 4) (w := M 929 708) (o := 2986) (v := w32 (M 929 (2986 + M 929 708) + 1)) (by omega) (by omega) (by omega) rfl
                                                         have s3 := step_book2 s2 (b := 5) (w := M 929 708) (o := 3287) (v := w32 (M 929 (3287 + M 929 708) + min (2 * price) (2 * M 929 (830 + pledge) + rI (M 929) pledge))) (by omega) (by omega) (by omega) rfl
                                                         have s4 := step_over s3 (p := pledge) (v := max (2 * price - (2 * M 929 (830 + pledge) + rI (M 929) pledge)) 0) (by (try simp (disch := omega) only [jset_k, jset_j, jset_same, true_and, and_true, cKill_o, rKill_o]); try omega) rfl
                                                         have s5 := step_left2 s4 (p := pledge) (by (try simp (disch := omega) only [jset_k, jset_j, jset_same, true_and, and_true, cKill_o, rKill_o]); try omega)
                                                         simp (disch := omega) only [jset_k (k' := 929) (j' := 708), jset_j (j' := 708)] at s5
                                                         have s6 := step_kill s5 (p := pledge) (n := M 929 1310) (n2 := M 929 1310) (by (try simp (disch := omega) only [jset_k, jset_j, jset_same, true_and, and_true, cKill_o, rKill_o]); try omega) (by (try simp (disch := omega) only [jset_k, jset_j, jset_same, true_and, and_true, cKill_o, rKill_o]); try omega)
                                                         refine inv_eq s6 ?_ ?_
                                                         · repeat (first | exact Ceq.rf | refine Ceq.lg ?_ | refine Ceq.rg ?_ | refine Ceq.lk ?_ | refine Ceq.rk ?_ | refine Ceq.lr ?_ | refine Ceq.rr ?_ | refine Ceq.give ?_ (by omega) (by omega) | refine Ceq.kill ?_ (by omega) (by omega) | refine Ceq.set ?_ (by omega) (by omega) (by first | rfl | omega | exact congrArg w32 (by omega)))
                                                         · simp (disch := first | omega | (simp (disch := omega) only [jset_k, jset_j, jset_same, true_and, and_true, cKill_o, rKill_o]; omega)) only [rGive_929, rKill_929, jset_929, cGive_hi, cKill_hi, cEnter_hi, jset_row]
                                                           repeat (first | rfl | refine aGive_cong ?_ (by omega) (by omega) | refine aKill_cong ?_ (by omega) (by omega) | refine rset_cong ?_ (by omega) (by first | rfl | omega | exact congrArg w32 (by omega)))))
                                              · first
                                                 | (exfalso; omega)
                                                 | (skip
                                                    refine e_iconst 194 dX12_sale_193 rfl ?_
                                                    refine e_iload_n (i := 2) 195 dX12_sale_194 rfl rfl rfl ?_
                                                    refine e_imul 196 dX12_sale_195 rfl ?_
                                                    refine e_iload_n (i := 3) 197 dX12_sale_196 rfl rfl rfl ?_
                                                    refine e_isub 198 dX12_sale_197 rfl ?_
                                                    refine e_goto 202 dX12_sale_198 (by decide) ?_
                                                    refine e_iast 203 dX12_sale_202 ar_929 (by omega) (by omega) (by omega) rfl ?_
                                                    refine e_aload_n (i := 0) 204 dX12_sale_203 rfl rfl rfl ?_
                                                    refine e_iload_n (i := 1) 205 dX12_sale_204 rfl rfl rfl ?_
                                                    refine e_iconst 206 dX12_sale_205 rfl ?_
                                                    refine e_callV 209 mt_yX12_leaves mv_yX12_leaves wd_1563 (by decide) dX12_sale_206 at_928 jc_12 rfl rfl rfl (Nat.le_of_ble_eq_true rfl) (jroom (by decide)) rfl (m_leaves (by omega) (by decide) (by (try simp (disch := omega) only [jset_k, jset_j, jset_same, true_and, and_true, hA, rKill_o]); omega) ?_)
                                                    dsimp only [jpush]
                                                    refine e_iconst 210 dX12_sale_209 rfl ?_
                                                    refine e_iload_n (i := 2) 211 dX12_sale_210 rfl rfl rfl ?_
                                                    refine e_imul 212 dX12_sale_211 rfl ?_
                                                    refine e_iload_n (i := 3) 213 dX12_sale_212 rfl rfl rfl ?_
                                                    refine e_isub 214 dX12_sale_213 rfl ?_
                                                    refine e_iret dX12_sale_214 ?_
                                                    first
                                                      | (exact ⟨by omega, hI⟩)
                                                      | (exfalso; omega)
                                                      | ((try subst hM1)
                                                         refine ⟨by first | omega | exact congrArg tkNum (by omega), ?_⟩
                                                         have s1 := step_book2 hI (b := 1) (w := M 929 708) (o := 2083) (v := w32 (M 929 (2083 + M 929 708) + min (max (2 * price - 2 * M 929 (830 + pledge)) 0) (rI (M 929) pledge))) (by omega) (by omega) (by omega) rfl
                                                         have s2 := step_book2 s1 (b := 4) (w := M 929 708) (o := 2986) (v := w32 (M 929 (2986 + M 929 708) + 1)) (by omega) (by omega) (by omega) rfl
                                                         have s3 := step_book2 s2 (b := 5) (w := M 929 708) (o := 3287) (v := w32 (M 929 (3287 + M 929 708) + min (2 * price) (2 * M 929 (830 + pledge) + rI (M 929) pledge))) (by omega) (by omega) (by omega) rfl
                                                         have s4 := step_over s3 (p := pledge) (v := max (2 * price - (2 * M 929 (830 + pledge) + rI (M 929) pledge)) 0) (by (try simp (disch := omega) only [jset_k, jset_j, jset_same, true_and, and_true, cKill_o, rKill_o]); try omega) rfl
                                                         have s5 := step_left2 s4 (p := pledge) (by (try simp (disch := omega) only [jset_k, jset_j, jset_same, true_and, and_true, cKill_o, rKill_o]); try omega)
                                                         simp (disch := omega) only [jset_k (k' := 929) (j' := 708), jset_j (j' := 708)] at s5
                                                         have s6 := step_kill s5 (p := pledge) (n := M 929 1310) (n2 := M 929 1310) (by (try simp (disch := omega) only [jset_k, jset_j, jset_same, true_and, and_true, cKill_o, rKill_o]); try omega) (by (try simp (disch := omega) only [jset_k, jset_j, jset_same, true_and, and_true, cKill_o, rKill_o]); try omega)
                                                         refine inv_eq s6 ?_ ?_
                                                         · repeat (first | exact Ceq.rf | refine Ceq.lg ?_ | refine Ceq.rg ?_ | refine Ceq.lk ?_ | refine Ceq.rk ?_ | refine Ceq.lr ?_ | refine Ceq.rr ?_ | refine Ceq.give ?_ (by omega) (by omega) | refine Ceq.kill ?_ (by omega) (by omega) | refine Ceq.set ?_ (by omega) (by omega) (by first | rfl | omega | exact congrArg w32 (by omega)))
                                                         · simp (disch := first | omega | (simp (disch := omega) only [jset_k, jset_j, jset_same, true_and, and_true, cKill_o, rKill_o]; omega)) only [rGive_929, rKill_929, jset_929, cGive_hi, cKill_hi, cEnter_hi, jset_row]
                                                           repeat (first | rfl | refine aGive_cong ?_ (by omega) (by omega) | refine aKill_cong ?_ (by omega) (by omega) | refine rset_cong ?_ (by omega) (by first | rfl | omega | exact congrArg w32 (by omega)))))))
                                  · first
                                     | (exfalso; omega)
                                     | (skip
                                        refine e_iload 93 dX12_sale_91 rfl rfl ?_
                                        refine e_goto 98 dX12_sale_93 (by decide) ?_
                                        refine e_istore (lsn := [(5, _), (4, _), (3, _), (0, _), (1, _), (2, _)]) 100 dX12_sale_98 (by decide) rfl rfl ?_
                                        refine e_aload_n (i := 0) 101 dX12_sale_100 rfl rfl rfl ?_
                                        refine e_getr (j := 1) 104 fl_12_13 dX12_sale_101 at_928 rfl rfl tp_928_1 rfl ?_
                                        refine e_sipush 107 dX12_sale_104 (by decide) rfl ?_
                                        refine e_aload_n (i := 0) 108 dX12_sale_107 rfl rfl rfl ?_
                                        refine e_getr (j := 1) 111 fl_12_13 dX12_sale_108 at_928 rfl rfl tp_928_1 rfl ?_
                                        refine e_sipush 114 dX12_sale_111 (by decide) rfl ?_
                                        refine e_iald 115 dX12_sale_114 ar_929 (by decide) (by decide) rfl (fun r114 => ?_)
                                        refine e_iadd 116 dX12_sale_115 rfl ?_
                                        refine e_dup2 117 dX12_sale_116 rfl rfl rfl ?_
                                        refine e_iald 118 dX12_sale_117 ar_929 (by omega) (by omega) rfl (fun r117 => ?_)
                                        refine e_iload 120 dX12_sale_118 rfl rfl ?_
                                        refine e_iadd 121 dX12_sale_120 rfl ?_
                                        refine e_iastw 122 dX12_sale_121 ar_929 (by omega) (by omega) rfl ?_
                                        refine e_aload_n (i := 0) 123 dX12_sale_122 rfl rfl rfl ?_
                                        refine e_getr (j := 1) 126 fl_12_13 dX12_sale_123 at_928 rfl rfl tp_928_1 rfl ?_
                                        refine e_sipush 129 dX12_sale_126 (by decide) rfl ?_
                                        refine e_aload_n (i := 0) 130 dX12_sale_129 rfl rfl rfl ?_
                                        refine e_getr (j := 1) 133 fl_12_13 dX12_sale_130 at_928 rfl rfl tp_928_1 rfl ?_
                                        refine e_sipush 136 dX12_sale_133 (by decide) rfl ?_
                                        refine e_iald 137 dX12_sale_136 ar_929 (by decide) (by decide) rfl (fun r136 => ?_)
                                        simp (disch := omega) only [jset_k, jset_j, jset_same, true_and, and_true] at r136 ⊢
                                        refine e_iadd 138 dX12_sale_137 rfl ?_
                                        refine e_dup2 139 dX12_sale_138 rfl rfl rfl ?_
                                        refine e_iald 140 dX12_sale_139 ar_929 (by omega) (by omega) rfl (fun r139 => ?_)
                                        simp (disch := omega) only [jset_k, jset_j, jset_same, true_and, and_true] at r139 ⊢
                                        refine e_iconst 141 dX12_sale_140 rfl ?_
                                        refine e_iadd 142 dX12_sale_141 rfl ?_
                                        refine e_iastw 143 dX12_sale_142 ar_929 (by omega) (by omega) rfl ?_
                                        refine e_aload_n (i := 0) 144 dX12_sale_143 rfl rfl rfl ?_
                                        refine e_getr (j := 1) 147 fl_12_13 dX12_sale_144 at_928 rfl rfl tp_928_1 rfl ?_
                                        refine e_sipush 150 dX12_sale_147 (by decide) rfl ?_
                                        refine e_aload_n (i := 0) 151 dX12_sale_150 rfl rfl rfl ?_
                                        refine e_getr (j := 1) 154 fl_12_13 dX12_sale_151 at_928 rfl rfl tp_928_1 rfl ?_
                                        refine e_sipush 157 dX12_sale_154 (by decide) rfl ?_
                                        refine e_iald 158 dX12_sale_157 ar_929 (by decide) (by decide) rfl (fun r157 => ?_)
                                        simp (disch := omega) only [jset_k, jset_j, jset_same, true_and, and_true] at r157 ⊢
                                        refine e_iadd 159 dX12_sale_158 rfl ?_
                                        refine e_dup2 160 dX12_sale_159 rfl rfl rfl ?_
                                        refine e_iald 161 dX12_sale_160 ar_929 (by omega) (by omega) rfl (fun r160 => ?_)
                                        simp (disch := omega) only [jset_k, jset_j, jset_same, true_and, and_true] at r160 ⊢
                                        refine e_iconst 162 dX12_sale_161 rfl ?_
                                        refine e_iload_n (i := 2) 163 dX12_sale_162 rfl rfl rfl ?_
                                        refine e_imul 164 dX12_sale_163 rfl ?_
                                        refine e_iload_n (i := 3) 165 dX12_sale_164 rfl rfl rfl ?_
                                        refine e_icmp_ge 168 174 dX12_sale_165 (by omega) (by omega) (by decide) rfl (fun b165 => ?_) (fun b165 => ?_)
                                        · first
                                           | (exfalso; omega)
                                           | (skip
                                              refine e_iload_n (i := 3) 175 dX12_sale_174 rfl rfl rfl ?_
                                              refine e_iadd 176 dX12_sale_175 rfl ?_
                                              refine e_iastw 177 dX12_sale_176 ar_929 (by omega) (by omega) rfl ?_
                                              refine e_aload_n (i := 0) 178 dX12_sale_177 rfl rfl rfl ?_
                                              refine e_getr (j := 1) 181 fl_12_13 dX12_sale_178 at_928 rfl rfl tp_928_1 rfl ?_
                                              refine e_sipush 184 dX12_sale_181 (by decide) rfl ?_
                                              refine e_iload_n (i := 1) 185 dX12_sale_184 rfl rfl rfl ?_
                                              refine e_iadd 186 dX12_sale_185 rfl ?_
                                              refine e_iconst 187 dX12_sale_186 rfl ?_
                                              refine e_iload_n (i := 2) 188 dX12_sale_187 rfl rfl rfl ?_
                                              refine e_imul 189 dX12_sale_188 rfl ?_
                                              refine e_iload_n (i := 3) 190 dX12_sale_189 rfl rfl rfl ?_
                                              refine e_icmp_le 193 201 dX12_sale_190 (by omega) (by omega) (by decide) rfl (fun b190 => ?_) (fun b190 => ?_)
                                              · first
                                                 | (exfalso; omega)
                                                 | (skip
                                                    refine e_iconst 202 dX12_sale_201 rfl ?_
                                                    refine e_iast 203 dX12_sale_202 ar_929 (by omega) (by omega) (by decide) rfl ?_
                                                    refine e_aload_n (i := 0) 204 dX12_sale_203 rfl rfl rfl ?_
                                                    refine e_iload_n (i := 1) 205 dX12_sale_204 rfl rfl rfl ?_
                                                    refine e_iconst 206 dX12_sale_205 rfl ?_
                                                    refine e_callV 209 mt_yX12_leaves mv_yX12_leaves wd_1563 (by decide) dX12_sale_206 at_928 jc_12 rfl rfl rfl (Nat.le_of_ble_eq_true rfl) (jroom (by decide)) rfl (m_leaves (by omega) (by decide) (by (try simp (disch := omega) only [jset_k, jset_j, jset_same, true_and, and_true, hA, rKill_o]); omega) ?_)
                                                    dsimp only [jpush]
                                                    refine e_iconst 210 dX12_sale_209 rfl ?_
                                                    refine e_iload_n (i := 2) 211 dX12_sale_210 rfl rfl rfl ?_
                                                    refine e_imul 212 dX12_sale_211 rfl ?_
                                                    refine e_iload_n (i := 3) 213 dX12_sale_212 rfl rfl rfl ?_
                                                    refine e_isub 214 dX12_sale_213 rfl ?_
                                                    refine e_iret dX12_sale_214 ?_
                                                    first
                                                      | (exact ⟨by omega, hI⟩)
                                                      | (exfalso; omega)
                                                      | ((try subst hM1)
                                                         refine ⟨by first | omega | exact congrArg tkNum (by omega), ?_⟩
                                                         have s1 := step_book2 hI (b := 1) (w := M 929 708) (o := 2083) (v := w32 (M 929 (2083 + M 929 708) + min (max (2 * price - 2 * M 929 (830 + pledge)) 0) (rI (M 929) pledge))) (by omega) (by omega) (by omega) rfl
                                                         have s2 := step_book2 s1 (b := 4) (w := M 929 708) (o := 2986) (v := w32 (M 929 (2986 + M 929 708) + 1)) (by omega) (by omega) (by omega) rfl
                                                         have s3 := step_book2 s2 (b := 5) (w := M 929 708) (o := 3287) (v := w32 (M 929 (3287 + M 929 708) + min (2 * price) (2 * M 929 (830 + pledge) + rI (M 929) pledge))) (by omega) (by omega) (by omega) rfl
                                                         have s4 := step_over s3 (p := pledge) (v := max (2 * price - (2 * M 929 (830 + pledge) + rI (M 929) pledge)) 0) (by (try simp (disch := omega) only [jset_k, jset_j, jset_same, true_and, and_true, cKill_o, rKill_o]); try omega) rfl
                                                         have s5 := step_left2 s4 (p := pledge) (by (try simp (disch := omega) only [jset_k, jset_j, jset_same, true_and, and_true, cKill_o, rKill_o]); try omega)
                                                         simp (disch := omega) only [jset_k (k' := 929) (j' := 708), jset_j (j' := 708)] at s5
                                                         have s6 := step_kill s5 (p := pledge) (n := M 929 1310) (n2 := M 929 1310) (by (try simp (disch := omega) only [jset_k, jset_j, jset_same, true_and, and_true, cKill_o, rKill_o]); try omega) (by (try simp (disch := omega) only [jset_k, jset_j, jset_same, true_and, and_true, cKill_o, rKill_o]); try omega)
                                                         refine inv_eq s6 ?_ ?_
                                                         · repeat (first | exact Ceq.rf | refine Ceq.lg ?_ | refine Ceq.rg ?_ | refine Ceq.lk ?_ | refine Ceq.rk ?_ | refine Ceq.lr ?_ | refine Ceq.rr ?_ | refine Ceq.give ?_ (by omega) (by omega) | refine Ceq.kill ?_ (by omega) (by omega) | refine Ceq.set ?_ (by omega) (by omega) (by first | rfl | omega | exact congrArg w32 (by omega)))
                                                         · simp (disch := first | omega | (simp (disch := omega) only [jset_k, jset_j, jset_same, true_and, and_true, cKill_o, rKill_o]; omega)) only [rGive_929, rKill_929, jset_929, cGive_hi, cKill_hi, cEnter_hi, jset_row]
                                                           repeat (first | rfl | refine aGive_cong ?_ (by omega) (by omega) | refine aKill_cong ?_ (by omega) (by omega) | refine rset_cong ?_ (by omega) (by first | rfl | omega | exact congrArg w32 (by omega)))))
                                              · first
                                                 | (exfalso; omega)
                                                 | (skip
                                                    refine e_iconst 194 dX12_sale_193 rfl ?_
                                                    refine e_iload_n (i := 2) 195 dX12_sale_194 rfl rfl rfl ?_
                                                    refine e_imul 196 dX12_sale_195 rfl ?_
                                                    refine e_iload_n (i := 3) 197 dX12_sale_196 rfl rfl rfl ?_
                                                    refine e_isub 198 dX12_sale_197 rfl ?_
                                                    refine e_goto 202 dX12_sale_198 (by decide) ?_
                                                    refine e_iast 203 dX12_sale_202 ar_929 (by omega) (by omega) (by omega) rfl ?_
                                                    refine e_aload_n (i := 0) 204 dX12_sale_203 rfl rfl rfl ?_
                                                    refine e_iload_n (i := 1) 205 dX12_sale_204 rfl rfl rfl ?_
                                                    refine e_iconst 206 dX12_sale_205 rfl ?_
                                                    refine e_callV 209 mt_yX12_leaves mv_yX12_leaves wd_1563 (by decide) dX12_sale_206 at_928 jc_12 rfl rfl rfl (Nat.le_of_ble_eq_true rfl) (jroom (by decide)) rfl (m_leaves (by omega) (by decide) (by (try simp (disch := omega) only [jset_k, jset_j, jset_same, true_and, and_true, hA, rKill_o]); omega) ?_)
                                                    dsimp only [jpush]
                                                    refine e_iconst 210 dX12_sale_209 rfl ?_
                                                    refine e_iload_n (i := 2) 211 dX12_sale_210 rfl rfl rfl ?_
                                                    refine e_imul 212 dX12_sale_211 rfl ?_
                                                    refine e_iload_n (i := 3) 213 dX12_sale_212 rfl rfl rfl ?_
                                                    refine e_isub 214 dX12_sale_213 rfl ?_
                                                    refine e_iret dX12_sale_214 ?_
                                                    first
                                                      | (exact ⟨by omega, hI⟩)
                                                      | (exfalso; omega)
                                                      | ((try subst hM1)
                                                         refine ⟨by first | omega | exact congrArg tkNum (by omega), ?_⟩
                                                         have s1 := step_book2 hI (b := 1) (w := M 929 708) (o := 2083) (v := w32 (M 929 (2083 + M 929 708) + min (max (2 * price - 2 * M 929 (830 + pledge)) 0) (rI (M 929) pledge))) (by omega) (by omega) (by omega) rfl
                                                         have s2 := step_book2 s1 (b := 4) (w := M 929 708) (o := 2986) (v := w32 (M 929 (2986 + M 929 708) + 1)) (by omega) (by omega) (by omega) rfl
                                                         have s3 := step_book2 s2 (b := 5) (w := M 929 708) (o := 3287) (v := w32 (M 929 (3287 + M 929 708) + min (2 * price) (2 * M 929 (830 + pledge) + rI (M 929) pledge))) (by omega) (by omega) (by omega) rfl
                                                         have s4 := step_over s3 (p := pledge) (v := max (2 * price - (2 * M 929 (830 + pledge) + rI (M 929) pledge)) 0) (by (try simp (disch := omega) only [jset_k, jset_j, jset_same, true_and, and_true, cKill_o, rKill_o]); try omega) rfl
                                                         have s5 := step_left2 s4 (p := pledge) (by (try simp (disch := omega) only [jset_k, jset_j, jset_same, true_and, and_true, cKill_o, rKill_o]); try omega)
                                                         simp (disch := omega) only [jset_k (k' := 929) (j' := 708), jset_j (j' := 708)] at s5
                                                         have s6 := step_kill s5 (p := pledge) (n := M 929 1310) (n2 := M 929 1310) (by (try simp (disch := omega) only [jset_k, jset_j, jset_same, true_and, and_true, cKill_o, rKill_o]); try omega) (by (try simp (disch := omega) only [jset_k, jset_j, jset_same, true_and, and_true, cKill_o, rKill_o]); try omega)
                                                         refine inv_eq s6 ?_ ?_
                                                         · repeat (first | exact Ceq.rf | refine Ceq.lg ?_ | refine Ceq.rg ?_ | refine Ceq.lk ?_ | refine Ceq.rk ?_ | refine Ceq.lr ?_ | refine Ceq.rr ?_ | refine Ceq.give ?_ (by omega) (by omega) | refine Ceq.kill ?_ (by omega) (by omega) | refine Ceq.set ?_ (by omega) (by omega) (by first | rfl | omega | exact congrArg w32 (by omega)))
                                                         · simp (disch := first | omega | (simp (disch := omega) only [jset_k, jset_j, jset_same, true_and, and_true, cKill_o, rKill_o]; omega)) only [rGive_929, rKill_929, jset_929, cGive_hi, cKill_hi, cEnter_hi, jset_row]
                                                           repeat (first | rfl | refine aGive_cong ?_ (by omega) (by omega) | refine aKill_cong ?_ (by omega) (by omega) | refine rset_cong ?_ (by omega) (by first | rfl | omega | exact congrArg w32 (by omega))))))
                                        · first
                                           | (exfalso; omega)
                                           | (skip
                                              refine e_iconst 169 dX12_sale_168 rfl ?_
                                              refine e_iload_n (i := 2) 170 dX12_sale_169 rfl rfl rfl ?_
                                              refine e_imul 171 dX12_sale_170 rfl ?_
                                              refine e_goto 175 dX12_sale_171 (by decide) ?_
                                              refine e_iadd 176 dX12_sale_175 rfl ?_
                                              refine e_iastw 177 dX12_sale_176 ar_929 (by omega) (by omega) rfl ?_
                                              refine e_aload_n (i := 0) 178 dX12_sale_177 rfl rfl rfl ?_
                                              refine e_getr (j := 1) 181 fl_12_13 dX12_sale_178 at_928 rfl rfl tp_928_1 rfl ?_
                                              refine e_sipush 184 dX12_sale_181 (by decide) rfl ?_
                                              refine e_iload_n (i := 1) 185 dX12_sale_184 rfl rfl rfl ?_
                                              refine e_iadd 186 dX12_sale_185 rfl ?_
                                              refine e_iconst 187 dX12_sale_186 rfl ?_
                                              refine e_iload_n (i := 2) 188 dX12_sale_187 rfl rfl rfl ?_
                                              refine e_imul 189 dX12_sale_188 rfl ?_
                                              refine e_iload_n (i := 3) 190 dX12_sale_189 rfl rfl rfl ?_
                                              refine e_icmp_le 193 201 dX12_sale_190 (by omega) (by omega) (by decide) rfl (fun b190 => ?_) (fun b190 => ?_)
                                              · first
                                                 | (exfalso; omega)
                                                 | (skip
                                                    refine e_iconst 202 dX12_sale_201 rfl ?_
                                                    refine e_iast 203 dX12_sale_202 ar_929 (by omega) (by omega) (by decide) rfl ?_
                                                    refine e_aload_n (i := 0) 204 dX12_sale_203 rfl rfl rfl ?_
                                                    refine e_iload_n (i := 1) 205 dX12_sale_204 rfl rfl rfl ?_
                                                    refine e_iconst 206 dX12_sale_205 rfl ?_
                                                    refine e_callV 209 mt_yX12_leaves mv_yX12_leaves wd_1563 (by decide) dX12_sale_206 at_928 jc_12 rfl rfl rfl (Nat.le_of_ble_eq_true rfl) (jroom (by decide)) rfl (m_leaves (by omega) (by decide) (by (try simp (disch := omega) only [jset_k, jset_j, jset_same, true_and, and_true, hA, rKill_o]); omega) ?_)
                                                    dsimp only [jpush]
                                                    refine e_iconst 210 dX12_sale_209 rfl ?_
                                                    refine e_iload_n (i := 2) 211 dX12_sale_210 rfl rfl rfl ?_
                                                    refine e_imul 212 dX12_sale_211 rfl ?_
                                                    refine e_iload_n (i := 3) 213 dX12_sale_212 rfl rfl rfl ?_
                                                    refine e_isub 214 dX12_sale_213 rfl ?_
                                                    refine e_iret dX12_sale_214 ?_
                                                    first
                                                      | (exact ⟨by omega, hI⟩)
                                                      | (exfalso; omega)
                                                      | ((try subst hM1)
                                                         refine ⟨by first | omega | exact congrArg tkNum (by omega), ?_⟩
                                                         have s1 := step_book2 hI (b := 1) (w := M 929 708) (o := 2083) (v := w32 (M 929 (2083 + M 929 708) + min (max (2 * price - 2 * M 929 (830 + pledge)) 0) (rI (M 929) pledge))) (by omega) (by omega) (by omega) rfl
                                                         have s2 := step_book2 s1 (b := 4) (w := M 929 708) (o := 2986) (v := w32 (M 929 (2986 + M 929 708) + 1)) (by omega) (by omega) (by omega) rfl
                                                         have s3 := step_book2 s2 (b := 5) (w := M 929 708) (o := 3287) (v := w32 (M 929 (3287 + M 929 708) + min (2 * price) (2 * M 929 (830 + pledge) + rI (M 929) pledge))) (by omega) (by omega) (by omega) rfl
                                                         have s4 := step_over s3 (p := pledge) (v := max (2 * price - (2 * M 929 (830 + pledge) + rI (M 929) pledge)) 0) (by (try simp (disch := omega) only [jset_k, jset_j, jset_same, true_and, and_true, cKill_o, rKill_o]); try omega) rfl
                                                         have s5 := step_left2 s4 (p := pledge) (by (try simp (disch := omega) only [jset_k, jset_j, jset_same, true_and, and_true, cKill_o, rKill_o]); try omega)
                                                         simp (disch := omega) only [jset_k (k' := 929) (j' := 708), jset_j (j' := 708)] at s5
                                                         have s6 := step_kill s5 (p := pledge) (n := M 929 1310) (n2 := M 929 1310) (by (try simp (disch := omega) only [jset_k, jset_j, jset_same, true_and, and_true, cKill_o, rKill_o]); try omega) (by (try simp (disch := omega) only [jset_k, jset_j, jset_same, true_and, and_true, cKill_o, rKill_o]); try omega)
                                                         refine inv_eq s6 ?_ ?_
                                                         · repeat (first | exact Ceq.rf | refine Ceq.lg ?_ | refine Ceq.rg ?_ | refine Ceq.lk ?_ | refine Ceq.rk ?_ | refine Ceq.lr ?_ | refine Ceq.rr ?_ | refine Ceq.give ?_ (by omega) (by omega) | refine Ceq.kill ?_ (by omega) (by omega) | refine Ceq.set ?_ (by omega) (by omega) (by first | rfl | omega | exact congrArg w32 (by omega)))
                                                         · simp (disch := first | omega | (simp (disch := omega) only [jset_k, jset_j, jset_same, true_and, and_true, cKill_o, rKill_o]; omega)) only [rGive_929, rKill_929, jset_929, cGive_hi, cKill_hi, cEnter_hi, jset_row]
                                                           repeat (first | rfl | refine aGive_cong ?_ (by omega) (by omega) | refine aKill_cong ?_ (by omega) (by omega) | refine rset_cong ?_ (by omega) (by first | rfl | omega | exact congrArg w32 (by omega)))))
                                              · first
                                                 | (exfalso; omega)
                                                 | (skip
                                                    refine e_iconst 194 dX12_sale_193 rfl ?_
                                                    refine e_iload_n (i := 2) 195 dX12_sale_194 rfl rfl rfl ?_
                                                    refine e_imul 196 dX12_sale_195 rfl ?_
                                                    refine e_iload_n (i := 3) 197 dX12_sale_196 rfl rfl rfl ?_
                                                    refine e_isub 198 dX12_sale_197 rfl ?_
                                                    refine e_goto 202 dX12_sale_198 (by decide) ?_
                                                    refine e_iast 203 dX12_sale_202 ar_929 (by omega) (by omega) (by omega) rfl ?_
                                                    refine e_aload_n (i := 0) 204 dX12_sale_203 rfl rfl rfl ?_
                                                    refine e_iload_n (i := 1) 205 dX12_sale_204 rfl rfl rfl ?_
                                                    refine e_iconst 206 dX12_sale_205 rfl ?_
                                                    refine e_callV 209 mt_yX12_leaves mv_yX12_leaves wd_1563 (by decide) dX12_sale_206 at_928 jc_12 rfl rfl rfl (Nat.le_of_ble_eq_true rfl) (jroom (by decide)) rfl (m_leaves (by omega) (by decide) (by (try simp (disch := omega) only [jset_k, jset_j, jset_same, true_and, and_true, hA, rKill_o]); omega) ?_)
                                                    dsimp only [jpush]
                                                    refine e_iconst 210 dX12_sale_209 rfl ?_
                                                    refine e_iload_n (i := 2) 211 dX12_sale_210 rfl rfl rfl ?_
                                                    refine e_imul 212 dX12_sale_211 rfl ?_
                                                    refine e_iload_n (i := 3) 213 dX12_sale_212 rfl rfl rfl ?_
                                                    refine e_isub 214 dX12_sale_213 rfl ?_
                                                    refine e_iret dX12_sale_214 ?_
                                                    first
                                                      | (exact ⟨by omega, hI⟩)
                                                      | (exfalso; omega)
                                                      | ((try subst hM1)
                                                         refine ⟨by first | omega | exact congrArg tkNum (by omega), ?_⟩
                                                         have s1 := step_book2 hI (b := 1) (w := M 929 708) (o := 2083) (v := w32 (M 929 (2083 + M 929 708) + min (max (2 * price - 2 * M 929 (830 + pledge)) 0) (rI (M 929) pledge))) (by omega) (by omega) (by omega) rfl
                                                         have s2 := step_book2 s1 (b := 4) (w := M 929 708) (o := 2986) (v := w32 (M 929 (2986 + M 929 708) + 1)) (by omega) (by omega) (by omega) rfl
                                                         have s3 := step_book2 s2 (b := 5) (w := M 929 708) (o := 3287) (v := w32 (M 929 (3287 + M 929 708) + min (2 * price) (2 * M 929 (830 + pledge) + rI (M 929) pledge))) (by omega) (by omega) (by omega) rfl
                                                         have s4 := step_over s3 (p := pledge) (v := max (2 * price - (2 * M 929 (830 + pledge) + rI (M 929) pledge)) 0) (by (try simp (disch := omega) only [jset_k, jset_j, jset_same, true_and, and_true, cKill_o, rKill_o]); try omega) rfl
                                                         have s5 := step_left2 s4 (p := pledge) (by (try simp (disch := omega) only [jset_k, jset_j, jset_same, true_and, and_true, cKill_o, rKill_o]); try omega)
                                                         simp (disch := omega) only [jset_k (k' := 929) (j' := 708), jset_j (j' := 708)] at s5
                                                         have s6 := step_kill s5 (p := pledge) (n := M 929 1310) (n2 := M 929 1310) (by (try simp (disch := omega) only [jset_k, jset_j, jset_same, true_and, and_true, cKill_o, rKill_o]); try omega) (by (try simp (disch := omega) only [jset_k, jset_j, jset_same, true_and, and_true, cKill_o, rKill_o]); try omega)
                                                         refine inv_eq s6 ?_ ?_
                                                         · repeat (first | exact Ceq.rf | refine Ceq.lg ?_ | refine Ceq.rg ?_ | refine Ceq.lk ?_ | refine Ceq.rk ?_ | refine Ceq.lr ?_ | refine Ceq.rr ?_ | refine Ceq.give ?_ (by omega) (by omega) | refine Ceq.kill ?_ (by omega) (by omega) | refine Ceq.set ?_ (by omega) (by omega) (by first | rfl | omega | exact congrArg w32 (by omega)))
                                                         · simp (disch := first | omega | (simp (disch := omega) only [jset_k, jset_j, jset_same, true_and, and_true, cKill_o, rKill_o]; omega)) only [rGive_929, rKill_929, jset_929, cGive_hi, cKill_hi, cEnter_hi, jset_row]
                                                           repeat (first | rfl | refine aGive_cong ?_ (by omega) (by omega) | refine aKill_cong ?_ (by omega) (by omega) | refine rset_cong ?_ (by omega) (by first | rfl | omega | exact congrArg w32 (by omega))))))))
                            · first
                               | (exfalso; omega)
                               | (skip
                                  refine e_iconst 81 dX12_sale_80 rfl ?_
                                  refine e_goto 98 dX12_sale_81 (by decide) ?_
                                  refine e_istore (lsn := [(5, _), (4, _), (3, _), (0, _), (1, _), (2, _)]) 100 dX12_sale_98 (by decide) rfl rfl ?_
                                  refine e_aload_n (i := 0) 101 dX12_sale_100 rfl rfl rfl ?_
                                  refine e_getr (j := 1) 104 fl_12_13 dX12_sale_101 at_928 rfl rfl tp_928_1 rfl ?_
                                  refine e_sipush 107 dX12_sale_104 (by decide) rfl ?_
                                  refine e_aload_n (i := 0) 108 dX12_sale_107 rfl rfl rfl ?_
                                  refine e_getr (j := 1) 111 fl_12_13 dX12_sale_108 at_928 rfl rfl tp_928_1 rfl ?_
                                  refine e_sipush 114 dX12_sale_111 (by decide) rfl ?_
                                  refine e_iald 115 dX12_sale_114 ar_929 (by decide) (by decide) rfl (fun r114 => ?_)
                                  refine e_iadd 116 dX12_sale_115 rfl ?_
                                  refine e_dup2 117 dX12_sale_116 rfl rfl rfl ?_
                                  refine e_iald 118 dX12_sale_117 ar_929 (by omega) (by omega) rfl (fun r117 => ?_)
                                  refine e_iload 120 dX12_sale_118 rfl rfl ?_
                                  refine e_iadd 121 dX12_sale_120 rfl ?_
                                  refine e_iastw 122 dX12_sale_121 ar_929 (by omega) (by omega) rfl ?_
                                  refine e_aload_n (i := 0) 123 dX12_sale_122 rfl rfl rfl ?_
                                  refine e_getr (j := 1) 126 fl_12_13 dX12_sale_123 at_928 rfl rfl tp_928_1 rfl ?_
                                  refine e_sipush 129 dX12_sale_126 (by decide) rfl ?_
                                  refine e_aload_n (i := 0) 130 dX12_sale_129 rfl rfl rfl ?_
                                  refine e_getr (j := 1) 133 fl_12_13 dX12_sale_130 at_928 rfl rfl tp_928_1 rfl ?_
                                  refine e_sipush 136 dX12_sale_133 (by decide) rfl ?_
                                  refine e_iald 137 dX12_sale_136 ar_929 (by decide) (by decide) rfl (fun r136 => ?_)
                                  simp (disch := omega) only [jset_k, jset_j, jset_same, true_and, and_true] at r136 ⊢
                                  refine e_iadd 138 dX12_sale_137 rfl ?_
                                  refine e_dup2 139 dX12_sale_138 rfl rfl rfl ?_
                                  refine e_iald 140 dX12_sale_139 ar_929 (by omega) (by omega) rfl (fun r139 => ?_)
                                  simp (disch := omega) only [jset_k, jset_j, jset_same, true_and, and_true] at r139 ⊢
                                  refine e_iconst 141 dX12_sale_140 rfl ?_
                                  refine e_iadd 142 dX12_sale_141 rfl ?_
                                  refine e_iastw 143 dX12_sale_142 ar_929 (by omega) (by omega) rfl ?_
                                  refine e_aload_n (i := 0) 144 dX12_sale_143 rfl rfl rfl ?_
                                  refine e_getr (j := 1) 147 fl_12_13 dX12_sale_144 at_928 rfl rfl tp_928_1 rfl ?_
                                  refine e_sipush 150 dX12_sale_147 (by decide) rfl ?_
                                  refine e_aload_n (i := 0) 151 dX12_sale_150 rfl rfl rfl ?_
                                  refine e_getr (j := 1) 154 fl_12_13 dX12_sale_151 at_928 rfl rfl tp_928_1 rfl ?_
                                  refine e_sipush 157 dX12_sale_154 (by decide) rfl ?_
                                  refine e_iald 158 dX12_sale_157 ar_929 (by decide) (by decide) rfl (fun r157 => ?_)
                                  simp (disch := omega) only [jset_k, jset_j, jset_same, true_and, and_true] at r157 ⊢
                                  refine e_iadd 159 dX12_sale_158 rfl ?_
                                  refine e_dup2 160 dX12_sale_159 rfl rfl rfl ?_
                                  refine e_iald 161 dX12_sale_160 ar_929 (by omega) (by omega) rfl (fun r160 => ?_)
                                  simp (disch := omega) only [jset_k, jset_j, jset_same, true_and, and_true] at r160 ⊢
                                  refine e_iconst 162 dX12_sale_161 rfl ?_
                                  refine e_iload_n (i := 2) 163 dX12_sale_162 rfl rfl rfl ?_
                                  refine e_imul 164 dX12_sale_163 rfl ?_
                                  refine e_iload_n (i := 3) 165 dX12_sale_164 rfl rfl rfl ?_
                                  refine e_icmp_ge 168 174 dX12_sale_165 (by omega) (by omega) (by decide) rfl (fun b165 => ?_) (fun b165 => ?_)
                                  · first
                                     | (exfalso; omega)
                                     | (skip
                                        refine e_iload_n (i := 3) 175 dX12_sale_174 rfl rfl rfl ?_
                                        refine e_iadd 176 dX12_sale_175 rfl ?_
                                        refine e_iastw 177 dX12_sale_176 ar_929 (by omega) (by omega) rfl ?_
                                        refine e_aload_n (i := 0) 178 dX12_sale_177 rfl rfl rfl ?_
                                        refine e_getr (j := 1) 181 fl_12_13 dX12_sale_178 at_928 rfl rfl tp_928_1 rfl ?_
                                        refine e_sipush 184 dX12_sale_181 (by decide) rfl ?_
                                        refine e_iload_n (i := 1) 185 dX12_sale_184 rfl rfl rfl ?_
                                        refine e_iadd 186 dX12_sale_185 rfl ?_
                                        refine e_iconst 187 dX12_sale_186 rfl ?_
                                        refine e_iload_n (i := 2) 188 dX12_sale_187 rfl rfl rfl ?_
                                        refine e_imul 189 dX12_sale_188 rfl ?_
                                        refine e_iload_n (i := 3) 190 dX12_sale_189 rfl rfl rfl ?_
                                        refine e_icmp_le 193 201 dX12_sale_190 (by omega) (by omega) (by decide) rfl (fun b190 => ?_) (fun b190 => ?_)
                                        · first
                                           | (exfalso; omega)
                                           | (skip
                                              refine e_iconst 202 dX12_sale_201 rfl ?_
                                              refine e_iast 203 dX12_sale_202 ar_929 (by omega) (by omega) (by decide) rfl ?_
                                              refine e_aload_n (i := 0) 204 dX12_sale_203 rfl rfl rfl ?_
                                              refine e_iload_n (i := 1) 205 dX12_sale_204 rfl rfl rfl ?_
                                              refine e_iconst 206 dX12_sale_205 rfl ?_
                                              refine e_callV 209 mt_yX12_leaves mv_yX12_leaves wd_1563 (by decide) dX12_sale_206 at_928 jc_12 rfl rfl rfl (Nat.le_of_ble_eq_true rfl) (jroom (by decide)) rfl (m_leaves (by omega) (by decide) (by (try simp (disch := omega) only [jset_k, jset_j, jset_same, true_and, and_true, hA, rKill_o]); omega) ?_)
                                              dsimp only [jpush]
                                              refine e_iconst 210 dX12_sale_209 rfl ?_
                                              refine e_iload_n (i := 2) 211 dX12_sale_210 rfl rfl rfl ?_
                                              refine e_imul 212 dX12_sale_211 rfl ?_
                                              refine e_iload_n (i := 3) 213 dX12_sale_212 rfl rfl rfl ?_
                                              refine e_isub 214 dX12_sale_213 rfl ?_
                                              refine e_iret dX12_sale_214 ?_
                                              first
                                                | (exact ⟨by omega, hI⟩)
                                                | (exfalso; omega)
                                                | ((try subst hM1)
                                                   refine ⟨by first | omega | exact congrArg tkNum (by omega), ?_⟩
                                                   have s1 := step_book2 hI (b := 1) (w := M 929 708) (o := 2083) (v := w32 (M 929 (2083 + M 929 708) + min (max (2 * price - 2 * M 929 (830 + pledge)) 0) (rI (M 929) pledge))) (by omega) (by omega) (by omega) rfl
                                                   have s2 := step_book2 s1 (b := 4) (w := M 929 708) (o := 2986) (v := w32 (M 929 (2986 + M 929 708) + 1)) (by omega) (by omega) (by omega) rfl
                                                   have s3 := step_book2 s2 (b := 5) (w := M 929 708) (o := 3287) (v := w32 (M 929 (3287 + M 929 708) + min (2 * price) (2 * M 929 (830 + pledge) + rI (M 929) pledge))) (by omega) (by omega) (by omega) rfl
                                                   have s4 := step_over s3 (p := pledge) (v := max (2 * price - (2 * M 929 (830 + pledge) + rI (M 929) pledge)) 0) (by (try simp (disch := omega) only [jset_k, jset_j, jset_same, true_and, and_true, cKill_o, rKill_o]); try omega) rfl
                                                   have s5 := step_left2 s4 (p := pledge) (by (try simp (disch := omega) only [jset_k, jset_j, jset_same, true_and, and_true, cKill_o, rKill_o]); try omega)
                                                   simp (disch := omega) only [jset_k (k' := 929) (j' := 708), jset_j (j' := 708)] at s5
                                                   have s6 := step_kill s5 (p := pledge) (n := M 929 1310) (n2 := M 929 1310) (by (try simp (disch := omega) only [jset_k, jset_j, jset_same, true_and, and_true, cKill_o, rKill_o]); try omega) (by (try simp (disch := omega) only [jset_k, jset_j, jset_same, true_and, and_true, cKill_o, rKill_o]); try omega)
                                                   refine inv_eq s6 ?_ ?_
                                                   · repeat (first | exact Ceq.rf | refine Ceq.lg ?_ | refine Ceq.rg ?_ | refine Ceq.lk ?_ | refine Ceq.rk ?_ | refine Ceq.lr ?_ | refine Ceq.rr ?_ | refine Ceq.give ?_ (by omega) (by omega) | refine Ceq.kill ?_ (by omega) (by omega) | refine Ceq.set ?_ (by omega) (by omega) (by first | rfl | omega | exact congrArg w32 (by omega)))
                                                   · simp (disch := first | omega | (simp (disch := omega) only [jset_k, jset_j, jset_same, true_and, and_true, cKill_o, rKill_o]; omega)) only [rGive_929, rKill_929, jset_929, cGive_hi, cKill_hi, cEnter_hi, jset_row]
                                                     repeat (first | rfl | refine aGive_cong ?_ (by omega) (by omega) | refine aKill_cong ?_ (by omega) (by omega) | refine rset_cong ?_ (by omega) (by first | rfl | omega | exact congrArg w32 (by omega)))))
                                        · first
                                           | (exfalso; omega)
                                           | (skip
                                              refine e_iconst 194 dX12_sale_193 rfl ?_
                                              refine e_iload_n (i := 2) 195 dX12_sale_194 rfl rfl rfl ?_
                                              refine e_imul 196 dX12_sale_195 rfl ?_
                                              refine e_iload_n (i := 3) 197 dX12_sale_196 rfl rfl rfl ?_
                                              refine e_isub 198 dX12_sale_197 rfl ?_
                                              refine e_goto 202 dX12_sale_198 (by decide) ?_
                                              refine e_iast 203 dX12_sale_202 ar_929 (by omega) (by omega) (by omega) rfl ?_
                                              refine e_aload_n (i := 0) 204 dX12_sale_203 rfl rfl rfl ?_
                                              refine e_iload_n (i := 1) 205 dX12_sale_204 rfl rfl rfl ?_
                                              refine e_iconst 206 dX12_sale_205 rfl ?_
                                              refine e_callV 209 mt_yX12_leaves mv_yX12_leaves wd_1563 (by decide) dX12_sale_206 at_928 jc_12 rfl rfl rfl (Nat.le_of_ble_eq_true rfl) (jroom (by decide)) rfl (m_leaves (by omega) (by decide) (by (try simp (disch := omega) only [jset_k, jset_j, jset_same, true_and, and_true, hA, rKill_o]); omega) ?_)
                                              dsimp only [jpush]
                                              refine e_iconst 210 dX12_sale_209 rfl ?_
                                              refine e_iload_n (i := 2) 211 dX12_sale_210 rfl rfl rfl ?_
                                              refine e_imul 212 dX12_sale_211 rfl ?_
                                              refine e_iload_n (i := 3) 213 dX12_sale_212 rfl rfl rfl ?_
                                              refine e_isub 214 dX12_sale_213 rfl ?_
                                              refine e_iret dX12_sale_214 ?_
                                              first
                                                | (exact ⟨by omega, hI⟩)
                                                | (exfalso; omega)
                                                | ((try subst hM1)
                                                   refine ⟨by first | omega | exact congrArg tkNum (by omega), ?_⟩
                                                   have s1 := step_book2 hI (b := 1) (w := M 929 708) (o := 2083) (v := w32 (M 929 (2083 + M 929 708) + min (max (2 * price - 2 * M 929 (830 + pledge)) 0) (rI (M 929) pledge))) (by omega) (by omega) (by omega) rfl
                                                   have s2 := step_book2 s1 (b := 4) (w := M 929 708) (o := 2986) (v := w32 (M 929 (2986 + M 929 708) + 1)) (by omega) (by omega) (by omega) rfl
                                                   have s3 := step_book2 s2 (b := 5) (w := M 929 708) (o := 3287) (v := w32 (M 929 (3287 + M 929 708) + min (2 * price) (2 * M 929 (830 + pledge) + rI (M 929) pledge))) (by omega) (by omega) (by omega) rfl
                                                   have s4 := step_over s3 (p := pledge) (v := max (2 * price - (2 * M 929 (830 + pledge) + rI (M 929) pledge)) 0) (by (try simp (disch := omega) only [jset_k, jset_j, jset_same, true_and, and_true, cKill_o, rKill_o]); try omega) rfl
                                                   have s5 := step_left2 s4 (p := pledge) (by (try simp (disch := omega) only [jset_k, jset_j, jset_same, true_and, and_true, cKill_o, rKill_o]); try omega)
                                                   simp (disch := omega) only [jset_k (k' := 929) (j' := 708), jset_j (j' := 708)] at s5
                                                   have s6 := step_kill s5 (p := pledge) (n := M 929 1310) (n2 := M 929 1310) (by (try simp (disch := omega) only [jset_k, jset_j, jset_same, true_and, and_true, cKill_o, rKill_o]); try omega) (by (try simp (disch := omega) only [jset_k, jset_j, jset_same, true_and, and_true, cKill_o, rKill_o]); try omega)
                                                   refine inv_eq s6 ?_ ?_
                                                   · repeat (first | exact Ceq.rf | refine Ceq.lg ?_ | refine Ceq.rg ?_ | refine Ceq.lk ?_ | refine Ceq.rk ?_ | refine Ceq.lr ?_ | refine Ceq.rr ?_ | refine Ceq.give ?_ (by omega) (by omega) | refine Ceq.kill ?_ (by omega) (by omega) | refine Ceq.set ?_ (by omega) (by omega) (by first | rfl | omega | exact congrArg w32 (by omega)))
                                                   · simp (disch := first | omega | (simp (disch := omega) only [jset_k, jset_j, jset_same, true_and, and_true, cKill_o, rKill_o]; omega)) only [rGive_929, rKill_929, jset_929, cGive_hi, cKill_hi, cEnter_hi, jset_row]
                                                     repeat (first | rfl | refine aGive_cong ?_ (by omega) (by omega) | refine aKill_cong ?_ (by omega) (by omega) | refine rset_cong ?_ (by omega) (by first | rfl | omega | exact congrArg w32 (by omega))))))
                                  · first
                                     | (exfalso; omega)
                                     | (skip
                                        refine e_iconst 169 dX12_sale_168 rfl ?_
                                        refine e_iload_n (i := 2) 170 dX12_sale_169 rfl rfl rfl ?_
                                        refine e_imul 171 dX12_sale_170 rfl ?_
                                        refine e_goto 175 dX12_sale_171 (by decide) ?_
                                        refine e_iadd 176 dX12_sale_175 rfl ?_
                                        refine e_iastw 177 dX12_sale_176 ar_929 (by omega) (by omega) rfl ?_
                                        refine e_aload_n (i := 0) 178 dX12_sale_177 rfl rfl rfl ?_
                                        refine e_getr (j := 1) 181 fl_12_13 dX12_sale_178 at_928 rfl rfl tp_928_1 rfl ?_
                                        refine e_sipush 184 dX12_sale_181 (by decide) rfl ?_
                                        refine e_iload_n (i := 1) 185 dX12_sale_184 rfl rfl rfl ?_
                                        refine e_iadd 186 dX12_sale_185 rfl ?_
                                        refine e_iconst 187 dX12_sale_186 rfl ?_
                                        refine e_iload_n (i := 2) 188 dX12_sale_187 rfl rfl rfl ?_
                                        refine e_imul 189 dX12_sale_188 rfl ?_
                                        refine e_iload_n (i := 3) 190 dX12_sale_189 rfl rfl rfl ?_
                                        refine e_icmp_le 193 201 dX12_sale_190 (by omega) (by omega) (by decide) rfl (fun b190 => ?_) (fun b190 => ?_)
                                        · first
                                           | (exfalso; omega)
                                           | (skip
                                              refine e_iconst 202 dX12_sale_201 rfl ?_
                                              refine e_iast 203 dX12_sale_202 ar_929 (by omega) (by omega) (by decide) rfl ?_
                                              refine e_aload_n (i := 0) 204 dX12_sale_203 rfl rfl rfl ?_
                                              refine e_iload_n (i := 1) 205 dX12_sale_204 rfl rfl rfl ?_
                                              refine e_iconst 206 dX12_sale_205 rfl ?_
                                              refine e_callV 209 mt_yX12_leaves mv_yX12_leaves wd_1563 (by decide) dX12_sale_206 at_928 jc_12 rfl rfl rfl (Nat.le_of_ble_eq_true rfl) (jroom (by decide)) rfl (m_leaves (by omega) (by decide) (by (try simp (disch := omega) only [jset_k, jset_j, jset_same, true_and, and_true, hA, rKill_o]); omega) ?_)
                                              dsimp only [jpush]
                                              refine e_iconst 210 dX12_sale_209 rfl ?_
                                              refine e_iload_n (i := 2) 211 dX12_sale_210 rfl rfl rfl ?_
                                              refine e_imul 212 dX12_sale_211 rfl ?_
                                              refine e_iload_n (i := 3) 213 dX12_sale_212 rfl rfl rfl ?_
                                              refine e_isub 214 dX12_sale_213 rfl ?_
                                              refine e_iret dX12_sale_214 ?_
                                              first
                                                | (exact ⟨by omega, hI⟩)
                                                | (exfalso; omega)
                                                | ((try subst hM1)
                                                   refine ⟨by first | omega | exact congrArg tkNum (by omega), ?_⟩
                                                   have s1 := step_book2 hI (b := 1) (w := M 929 708) (o := 2083) (v := w32 (M 929 (2083 + M 929 708) + min (max (2 * price - 2 * M 929 (830 + pledge)) 0) (rI (M 929) pledge))) (by omega) (by omega) (by omega) rfl
                                                   have s2 := step_book2 s1 (b := 4) (w := M 929 708) (o := 2986) (v := w32 (M 929 (2986 + M 929 708) + 1)) (by omega) (by omega) (by omega) rfl
                                                   have s3 := step_book2 s2 (b := 5) (w := M 929 708) (o := 3287) (v := w32 (M 929 (3287 + M 929 708) + min (2 * price) (2 * M 929 (830 + pledge) + rI (M 929) pledge))) (by omega) (by omega) (by omega) rfl
                                                   have s4 := step_over s3 (p := pledge) (v := max (2 * price - (2 * M 929 (830 + pledge) + rI (M 929) pledge)) 0) (by (try simp (disch := omega) only [jset_k, jset_j, jset_same, true_and, and_true, cKill_o, rKill_o]); try omega) rfl
                                                   have s5 := step_left2 s4 (p := pledge) (by (try simp (disch := omega) only [jset_k, jset_j, jset_same, true_and, and_true, cKill_o, rKill_o]); try omega)
                                                   simp (disch := omega) only [jset_k (k' := 929) (j' := 708), jset_j (j' := 708)] at s5
                                                   have s6 := step_kill s5 (p := pledge) (n := M 929 1310) (n2 := M 929 1310) (by (try simp (disch := omega) only [jset_k, jset_j, jset_same, true_and, and_true, cKill_o, rKill_o]); try omega) (by (try simp (disch := omega) only [jset_k, jset_j, jset_same, true_and, and_true, cKill_o, rKill_o]); try omega)
                                                   refine inv_eq s6 ?_ ?_
                                                   · repeat (first | exact Ceq.rf | refine Ceq.lg ?_ | refine Ceq.rg ?_ | refine Ceq.lk ?_ | refine Ceq.rk ?_ | refine Ceq.lr ?_ | refine Ceq.rr ?_ | refine Ceq.give ?_ (by omega) (by omega) | refine Ceq.kill ?_ (by omega) (by omega) | refine Ceq.set ?_ (by omega) (by omega) (by first | rfl | omega | exact congrArg w32 (by omega)))
                                                   · simp (disch := first | omega | (simp (disch := omega) only [jset_k, jset_j, jset_same, true_and, and_true, cKill_o, rKill_o]; omega)) only [rGive_929, rKill_929, jset_929, cGive_hi, cKill_hi, cEnter_hi, jset_row]
                                                     repeat (first | rfl | refine aGive_cong ?_ (by omega) (by omega) | refine aKill_cong ?_ (by omega) (by omega) | refine rset_cong ?_ (by omega) (by first | rfl | omega | exact congrArg w32 (by omega)))))
                                        · first
                                           | (exfalso; omega)
                                           | (skip
                                              refine e_iconst 194 dX12_sale_193 rfl ?_
                                              refine e_iload_n (i := 2) 195 dX12_sale_194 rfl rfl rfl ?_
                                              refine e_imul 196 dX12_sale_195 rfl ?_
                                              refine e_iload_n (i := 3) 197 dX12_sale_196 rfl rfl rfl ?_
                                              refine e_isub 198 dX12_sale_197 rfl ?_
                                              refine e_goto 202 dX12_sale_198 (by decide) ?_
                                              refine e_iast 203 dX12_sale_202 ar_929 (by omega) (by omega) (by omega) rfl ?_
                                              refine e_aload_n (i := 0) 204 dX12_sale_203 rfl rfl rfl ?_
                                              refine e_iload_n (i := 1) 205 dX12_sale_204 rfl rfl rfl ?_
                                              refine e_iconst 206 dX12_sale_205 rfl ?_
                                              refine e_callV 209 mt_yX12_leaves mv_yX12_leaves wd_1563 (by decide) dX12_sale_206 at_928 jc_12 rfl rfl rfl (Nat.le_of_ble_eq_true rfl) (jroom (by decide)) rfl (m_leaves (by omega) (by decide) (by (try simp (disch := omega) only [jset_k, jset_j, jset_same, true_and, and_true, hA, rKill_o]); omega) ?_)
                                              dsimp only [jpush]
                                              refine e_iconst 210 dX12_sale_209 rfl ?_
                                              refine e_iload_n (i := 2) 211 dX12_sale_210 rfl rfl rfl ?_
                                              refine e_imul 212 dX12_sale_211 rfl ?_
                                              refine e_iload_n (i := 3) 213 dX12_sale_212 rfl rfl rfl ?_
                                              refine e_isub 214 dX12_sale_213 rfl ?_
                                              refine e_iret dX12_sale_214 ?_
                                              first
                                                | (exact ⟨by omega, hI⟩)
                                                | (exfalso; omega)
                                                | ((try subst hM1)
                                                   refine ⟨by first | omega | exact congrArg tkNum (by omega), ?_⟩
                                                   have s1 := step_book2 hI (b := 1) (w := M 929 708) (o := 2083) (v := w32 (M 929 (2083 + M 929 708) + min (max (2 * price - 2 * M 929 (830 + pledge)) 0) (rI (M 929) pledge))) (by omega) (by omega) (by omega) rfl
                                                   have s2 := step_book2 s1 (b := 4) (w := M 929 708) (o := 2986) (v := w32 (M 929 (2986 + M 929 708) + 1)) (by omega) (by omega) (by omega) rfl
                                                   have s3 := step_book2 s2 (b := 5) (w := M 929 708) (o := 3287) (v := w32 (M 929 (3287 + M 929 708) + min (2 * price) (2 * M 929 (830 + pledge) + rI (M 929) pledge))) (by omega) (by omega) (by omega) rfl
                                                   have s4 := step_over s3 (p := pledge) (v := max (2 * price - (2 * M 929 (830 + pledge) + rI (M 929) pledge)) 0) (by (try simp (disch := omega) only [jset_k, jset_j, jset_same, true_and, and_true, cKill_o, rKill_o]); try omega) rfl
                                                   have s5 := step_left2 s4 (p := pledge) (by (try simp (disch := omega) only [jset_k, jset_j, jset_same, true_and, and_true, cKill_o, rKill_o]); try omega)
                                                   simp (disch := omega) only [jset_k (k' := 929) (j' := 708), jset_j (j' := 708)] at s5
                                                   have s6 := step_kill s5 (p := pledge) (n := M 929 1310) (n2 := M 929 1310) (by (try simp (disch := omega) only [jset_k, jset_j, jset_same, true_and, and_true, cKill_o, rKill_o]); try omega) (by (try simp (disch := omega) only [jset_k, jset_j, jset_same, true_and, and_true, cKill_o, rKill_o]); try omega)
                                                   refine inv_eq s6 ?_ ?_
                                                   · repeat (first | exact Ceq.rf | refine Ceq.lg ?_ | refine Ceq.rg ?_ | refine Ceq.lk ?_ | refine Ceq.rk ?_ | refine Ceq.lr ?_ | refine Ceq.rr ?_ | refine Ceq.give ?_ (by omega) (by omega) | refine Ceq.kill ?_ (by omega) (by omega) | refine Ceq.set ?_ (by omega) (by omega) (by first | rfl | omega | exact congrArg w32 (by omega)))
                                                   · simp (disch := first | omega | (simp (disch := omega) only [jset_k, jset_j, jset_same, true_and, and_true, cKill_o, rKill_o]; omega)) only [rGive_929, rKill_929, jset_929, cGive_hi, cKill_hi, cEnter_hi, jset_row]
                                                     repeat (first | rfl | refine aGive_cong ?_ (by omega) (by omega) | refine aKill_cong ?_ (by omega) (by omega) | refine rset_cong ?_ (by omega) (by first | rfl | omega | exact congrArg w32 (by omega))))))))
                      · dsimp only [jpush]
                        first
                         | (exfalso; omega)
                         | (skip
                            refine e_if_ne 41 44 dX12_sale_38 (by decide) (by decide) rfl (fun h => absurd h (by decide)) (fun _ => ?_)
                            refine e_ldc (z := (-1000000)) 43 (ix := 218) wd_1510 (by decide) dX12_sale_41 rfl ?_
                            refine e_iret dX12_sale_43 ?_
                            first
                              | (exact ⟨by omega, hI⟩)
                              | (exfalso; omega))))
          · dsimp only [jpush]
            first
             | (exfalso; omega)
             | (skip
                refine e_if_eq 21 41 dX12_sale_18 (by decide) (by decide) rfl (fun _ => ?_) (fun h => absurd h (by decide))
                refine e_ldc (z := (-1000000)) 43 (ix := 218) wd_1510 (by decide) dX12_sale_41 rfl ?_
                refine e_iret dX12_sale_43 ?_
                first
                  | (exact ⟨by omega, hI⟩)
                  | (exfalso; omega)))
    · dsimp only [jpush]
      first
       | (exfalso; omega)
       | (skip
          refine e_if_eq 13 41 dX12_sale_10 (by decide) (by decide) rfl (fun _ => ?_) (fun h => absurd h (by decide))
          refine e_ldc (z := (-1000000)) 43 (ix := 218) wd_1510 (by decide) dX12_sale_41 rfl ?_
          refine e_iret dX12_sale_43 ?_
          first
            | (exact ⟨by omega, hI⟩)
            | (exfalso; omega))

